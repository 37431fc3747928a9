/** An object of the class and one of the model, led through the same calls: each answer is compared. */
final class Twin {
    final TraceProver x = new TraceProver();
    final Model model = new Model();
    private final Check check;
    private final String name;

    Twin(Check check, String name) {
        this.check = check;
        this.name = name;
    }

    private int due(String call, int got, int want) {
        check.due(name + ": " + call, got, want);
        return got;
    }

    int term(int c, int k, int u, int v) {
        return due("term(" + c + ", " + k + ", " + u + ", " + v + ")", x.term(c, k, u, v), model.term(c, k, u, v));
    }

    int bound(int c, int r, int v) {
        return due("bound(" + c + ", " + r + ", " + v + ")", x.bound(c, r, v), model.bound(c, r, v));
    }

    void set(int c, int r, int v) {
        due("set(" + c + ", " + r + ", " + v + ")", x.set(c, r, v) ? 1 : 0, model.set(c, r, v) ? 1 : 0);
    }

    void setRows(int first, int second) {
        for (int r = 0; r < 8; r++) {
            set(0, r, first);
            set(1, r, second);
        }
    }

    int wrong() {
        return due("wrong()", x.wrong(), model.wrong());
    }

    int prove() {
        int code = due("prove()", x.prove(), model.prove());
        for (int i = 0; i < Model.LENGTH; i++) {
            due("proof(" + i + ")", x.proof(i), model.proof(i));
        }
        return code;
    }

    int verify() {
        int code = due("verify()", x.verify(), model.verify());
        for (int k = 0; k < 3; k++) {
            due("position(" + k + ")", x.position(k), model.position(k));
        }
        return code;
    }
}
