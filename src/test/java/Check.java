/** Counts the answers of one test that are not the ones that are due, under the sentence that asks for them. */
final class Check {
    private int asked = 0;
    private int wrong = 0;
    private int sentences = 0;
    private int askedBefore = 0;
    private String sentence = "";

    /** Opens the test of a sentence: what is due from now on is due by these words of the document. */
    void sentence(String where, String words) {
        closeSentence();
        sentences++;
        askedBefore = asked;
        sentence = where + ", \"" + words + "\": ";
    }

    private void closeSentence() {
        if (sentences > 0 && asked == askedBefore) {
            wrong++;
            System.out.println(sentence + "nothing was asked");
        }
    }

    void due(String call, long got, long want) {
        asked++;
        if (got != want) {
            wrong++;
            System.out.println(sentence + call + " answered " + got + ", due is " + want);
        }
    }

    void due(String call, boolean got, boolean want) {
        due(call, got ? 1 : 0, want ? 1 : 0);
    }

    /** All ints of the proof, one by one. */
    void dueProof(String when, TraceProver x, int[] row) {
        for (int i = 0; i < row.length; i++) {
            due(when + ": proof(" + i + ")", x.proof(i), row[i]);
        }
    }

    void duePositions(String when, TraceProver x, int first, int second, int third) {
        due(when + ": position(0)", x.position(0), first);
        due(when + ": position(1)", x.position(1), second);
        due(when + ": position(2)", x.position(2), third);
    }

    void dueNoPositions(String when, TraceProver x) {
        duePositions(when, x, TraceProver.NONE, TraceProver.NONE, TraceProver.NONE);
    }

    /** Runs the tests one by one: what one of them throws is a wrong answer of its sentence, and the next one runs. */
    void run(Runnable... tests) {
        for (Runnable test : tests) {
            try {
                test.run();
            } catch (RuntimeException thrown) {
                wrong++;
                System.out.println(sentence + "threw " + thrown + " at " + thrown.getStackTrace()[0]);
            }
        }
    }

    boolean isClean() {
        return wrong == 0;
    }

    /** Ends the test's program: exit code 1 if an answer was wrong. */
    void end() {
        closeSentence();
        String under = sentences == 0 ? "" : " to " + sentences + " sentences";
        System.out.println(asked + " answers" + under + ", " + wrong + " not as due");
        if (wrong != 0 || asked == 0) {
            System.exit(1);
        }
    }
}
