def ew_T0 : u_T := fun k => match k with
  | 0 => ("TraceProver", "points", "LTraceProver$Points;", true)
  | 1 => ("TraceProver", "rules", "LTraceProver$Rules;", true)
  | 2 => ("TraceProver", "table", "LTraceProver$Table;", true)
  | 3 => ("TraceProver", "kept", "LTraceProver$Proof;", true)
  | 4 => ("TraceProver", "prover", "LTraceProver$Prover;", true)
  | 5 => ("TraceProver", "verifier", "LTraceProver$Verifier;", true)
  | 6 => ("TraceProver", "proved", "Z", false)
  | _ => ("TraceProver", "positionsKnown", "Z", false)
def ew_Y0 : Nat → FieldType := fun k => match k with
  | 0 => (.object "TraceProver$Points")
  | 1 => (.object "TraceProver$Rules")
  | 2 => (.object "TraceProver$Table")
  | 3 => (.object "TraceProver$Proof")
  | 4 => (.object "TraceProver$Prover")
  | 5 => (.object "TraceProver$Verifier")
  | 6 => .boolean
  | _ => .boolean
def ew_T1 : u_T := fun k => match k with
  | 0 => ("TraceProver$Points", "rootPowers", "[I", true)
  | 1 => ("TraceProver$Points", "overPoint", "[I", true)
  | 2 => ("TraceProver$Points", "overPointLessOne", "[I", true)
  | 3 => ("TraceProver$Points", "constraintFactors", "[I", true)
  | _ => ("TraceProver$Points", "columnFactors", "[I", true)
def ew_Y1 : Nat → FieldType := fun k => match k with
  | 0 => (.array .int)
  | 1 => (.array .int)
  | 2 => (.array .int)
  | 3 => (.array .int)
  | _ => (.array .int)
def ew_T2 : u_T := fun k => match k with
  | 0 => ("TraceProver$Rules", "points", "LTraceProver$Points;", true)
  | 1 => ("TraceProver$Rules", "termCounts", "[I", true)
  | 2 => ("TraceProver$Rules", "terms", "[[I", true)
  | 3 => ("TraceProver$Rules", "bounds", "[I", true)
  | 4 => ("TraceProver$Rules", "boundCount", "I", false)
  | _ => ("TraceProver$Rules", "letters", "[I", true)
def ew_Y2 : Nat → FieldType := fun k => match k with
  | 0 => (.object "TraceProver$Points")
  | 1 => (.array .int)
  | 2 => (.array (.array .int))
  | 3 => (.array .int)
  | 4 => .int
  | _ => (.array .int)
def ew_T3 : u_T := fun k => match k with
  | 0 => ("TraceProver$Table", "points", "LTraceProver$Points;", true)
  | _ => ("TraceProver$Table", "cells", "[[I", true)
def ew_Y3 : Nat → FieldType := fun k => match k with
  | 0 => (.object "TraceProver$Points")
  | _ => (.array (.array .int))
def ew_T4 : u_T := fun k => match k with
  | _ => ("TraceProver$Proof", "ints", "[I", true)
def ew_Y4 : Nat → FieldType := fun k => match k with
  | _ => (.array .int)
def ew_T5 : u_T := fun k => match k with
  | 0 => ("TraceProver$Prover", "points", "LTraceProver$Points;", true)
  | 1 => ("TraceProver$Prover", "rules", "LTraceProver$Rules;", true)
  | 2 => ("TraceProver$Prover", "table", "LTraceProver$Table;", true)
  | 3 => ("TraceProver$Prover", "talk", "LTraceProver$Talk;", true)
  | 4 => ("TraceProver$Prover", "columns", "[[I", true)
  | 5 => ("TraceProver$Prover", "layers", "[[I", true)
  | 6 => ("TraceProver$Prover", "columnTree", "LTraceProver$Tree;", true)
  | _ => ("TraceProver$Prover", "layerTrees", "[LTraceProver$Tree;", true)
def ew_Y5 : Nat → FieldType := fun k => match k with
  | 0 => (.object "TraceProver$Points")
  | 1 => (.object "TraceProver$Rules")
  | 2 => (.object "TraceProver$Table")
  | 3 => (.object "TraceProver$Talk")
  | 4 => (.array (.array .int))
  | 5 => (.array (.array .int))
  | 6 => (.object "TraceProver$Tree")
  | _ => (.array (.object "TraceProver$Tree"))
def ew_T6 : u_T := fun k => match k with
  | 0 => ("TraceProver$Verifier", "points", "LTraceProver$Points;", true)
  | 1 => ("TraceProver$Verifier", "rules", "LTraceProver$Rules;", true)
  | 2 => ("TraceProver$Verifier", "subject", "LTraceProver$Proof;", true)
  | 3 => ("TraceProver$Verifier", "ints", "[I", true)
  | _ => ("TraceProver$Verifier", "talk", "LTraceProver$Talk;", true)
def ew_Y6 : Nat → FieldType := fun k => match k with
  | 0 => (.object "TraceProver$Points")
  | 1 => (.object "TraceProver$Rules")
  | 2 => (.object "TraceProver$Proof")
  | 3 => (.array .int)
  | _ => (.object "TraceProver$Talk")
def ew_T7 : u_T := fun k => match k with
  | 0 => ("TraceProver$Talk", "transcript", "I", false)
  | 1 => ("TraceProver$Talk", "composing", "I", false)
  | 2 => ("TraceProver$Talk", "folding", "[I", true)
  | _ => ("TraceProver$Talk", "places", "[I", true)
def ew_Y7 : Nat → FieldType := fun k => match k with
  | 0 => .int
  | 1 => .int
  | 2 => (.array .int)
  | _ => (.array .int)
def ew_T8 : u_T := fun k => match k with
  | 0 => ("TraceProver$Tree", "leafCount", "I", true)
  | _ => ("TraceProver$Tree", "nodes", "[I", true)
def ew_Y8 : Nat → FieldType := fun k => match k with
  | 0 => .int
  | _ => (.array .int)
def ew_T9 : u_T := fun k => match k with
  | 0 => ("TraceProverModel", "cells", "[I", true)
  | 1 => ("TraceProverModel", "many", "[I", true)
  | 2 => ("TraceProverModel", "ks", "[I", true)
  | 3 => ("TraceProverModel", "us", "[I", true)
  | 4 => ("TraceProverModel", "vs", "[I", true)
  | 5 => ("TraceProverModel", "bounds", "I", false)
  | 6 => ("TraceProverModel", "boundC", "[I", true)
  | 7 => ("TraceProverModel", "boundR", "[I", true)
  | 8 => ("TraceProverModel", "boundV", "[I", true)
  | 9 => ("TraceProverModel", "made", "Z", false)
  | 10 => ("TraceProverModel", "row", "[I", true)
  | 11 => ("TraceProverModel", "written", "I", false)
  | 12 => ("TraceProverModel", "transcript", "I", false)
  | 13 => ("TraceProverModel", "rules", "I", false)
  | 14 => ("TraceProverModel", "mixing", "I", false)
  | 15 => ("TraceProverModel", "folding", "[I", true)
  | 16 => ("TraceProverModel", "positions", "[I", true)
  | 17 => ("TraceProverModel", "latest", "[I", true)
  | 18 => ("TraceProverModel", "seen", "Z", false)
  | 19 => ("TraceProverModel", "roots", "[I", true)
  | 20 => ("TraceProverModel", "poly", "[I", true)
  | 21 => ("TraceProverModel", "layer", "[I", true)
  | 22 => ("TraceProverModel", "node", "[I", true)
  | _ => ("TraceProverModel", "letter", "[I", true)
def ew_Y9 : Nat → FieldType := fun k => match k with
  | 0 => (.array .int)
  | 1 => (.array .int)
  | 2 => (.array .int)
  | 3 => (.array .int)
  | 4 => (.array .int)
  | 5 => .int
  | 6 => (.array .int)
  | 7 => (.array .int)
  | 8 => (.array .int)
  | 9 => .boolean
  | 10 => (.array .int)
  | 11 => .int
  | 12 => .int
  | 13 => .int
  | 14 => .int
  | 15 => (.array .int)
  | 16 => (.array .int)
  | 17 => (.array .int)
  | 18 => .boolean
  | 19 => (.array .int)
  | 20 => (.array .int)
  | 21 => (.array .int)
  | 22 => (.array .int)
  | _ => (.array .int)
def ew_cl : List vw_C := [("TraceProver", ew_T0, 8), ("TraceProver$Points", ew_T1, 5), ("TraceProver$Rules", ew_T2, 6), ("TraceProver$Table", ew_T3, 2), ("TraceProver$Proof", ew_T4, 1), ("TraceProver$Prover", ew_T5, 8), ("TraceProver$Verifier", ew_T6, 5), ("TraceProver$Talk", ew_T7, 4), ("TraceProver$Tree", ew_T8, 2), ("TraceProverModel", ew_T9, 24)]
def ew_ys : List (Nat → FieldType) := [ew_Y0, ew_Y1, ew_Y2, ew_Y3, ew_Y4, ew_Y5, ew_Y6, ew_Y7, ew_Y8, ew_Y9]
theorem ew_in0 : ∀ w ∈ u_ws "TraceProver" ew_T0 8, w ∈ lw_tbl := by decide +kernel
theorem ew_nm0 : ∀ a, a < 8 → ∀ b, b < 8 → a ≠ b → (ew_T0 a).2.1 ≠ (ew_T0 b).2.1 := by decide +kernel
theorem ew_ty0 : ∀ k, k < 8 → parseFieldDescriptor (ew_T0 k).2.2.1 = some (ew_Y0 k) := by decide +kernel
theorem ew_in1 : ∀ w ∈ u_ws "TraceProver$Points" ew_T1 5, w ∈ lw_tbl := by decide +kernel
theorem ew_nm1 : ∀ a, a < 5 → ∀ b, b < 5 → a ≠ b → (ew_T1 a).2.1 ≠ (ew_T1 b).2.1 := by decide +kernel
theorem ew_ty1 : ∀ k, k < 5 → parseFieldDescriptor (ew_T1 k).2.2.1 = some (ew_Y1 k) := by decide +kernel
theorem ew_in2 : ∀ w ∈ u_ws "TraceProver$Rules" ew_T2 6, w ∈ lw_tbl := by decide +kernel
theorem ew_nm2 : ∀ a, a < 6 → ∀ b, b < 6 → a ≠ b → (ew_T2 a).2.1 ≠ (ew_T2 b).2.1 := by decide +kernel
theorem ew_ty2 : ∀ k, k < 6 → parseFieldDescriptor (ew_T2 k).2.2.1 = some (ew_Y2 k) := by decide +kernel
theorem ew_in3 : ∀ w ∈ u_ws "TraceProver$Table" ew_T3 2, w ∈ lw_tbl := by decide +kernel
theorem ew_nm3 : ∀ a, a < 2 → ∀ b, b < 2 → a ≠ b → (ew_T3 a).2.1 ≠ (ew_T3 b).2.1 := by decide +kernel
theorem ew_ty3 : ∀ k, k < 2 → parseFieldDescriptor (ew_T3 k).2.2.1 = some (ew_Y3 k) := by decide +kernel
theorem ew_in4 : ∀ w ∈ u_ws "TraceProver$Proof" ew_T4 1, w ∈ lw_tbl := by decide +kernel
theorem ew_nm4 : ∀ a, a < 1 → ∀ b, b < 1 → a ≠ b → (ew_T4 a).2.1 ≠ (ew_T4 b).2.1 := by decide +kernel
theorem ew_ty4 : ∀ k, k < 1 → parseFieldDescriptor (ew_T4 k).2.2.1 = some (ew_Y4 k) := by decide +kernel
theorem ew_in5 : ∀ w ∈ u_ws "TraceProver$Prover" ew_T5 8, w ∈ lw_tbl := by decide +kernel
theorem ew_nm5 : ∀ a, a < 8 → ∀ b, b < 8 → a ≠ b → (ew_T5 a).2.1 ≠ (ew_T5 b).2.1 := by decide +kernel
theorem ew_ty5 : ∀ k, k < 8 → parseFieldDescriptor (ew_T5 k).2.2.1 = some (ew_Y5 k) := by decide +kernel
theorem ew_in6 : ∀ w ∈ u_ws "TraceProver$Verifier" ew_T6 5, w ∈ lw_tbl := by decide +kernel
theorem ew_nm6 : ∀ a, a < 5 → ∀ b, b < 5 → a ≠ b → (ew_T6 a).2.1 ≠ (ew_T6 b).2.1 := by decide +kernel
theorem ew_ty6 : ∀ k, k < 5 → parseFieldDescriptor (ew_T6 k).2.2.1 = some (ew_Y6 k) := by decide +kernel
theorem ew_in7 : ∀ w ∈ u_ws "TraceProver$Talk" ew_T7 4, w ∈ lw_tbl := by decide +kernel
theorem ew_nm7 : ∀ a, a < 4 → ∀ b, b < 4 → a ≠ b → (ew_T7 a).2.1 ≠ (ew_T7 b).2.1 := by decide +kernel
theorem ew_ty7 : ∀ k, k < 4 → parseFieldDescriptor (ew_T7 k).2.2.1 = some (ew_Y7 k) := by decide +kernel
theorem ew_in8 : ∀ w ∈ u_ws "TraceProver$Tree" ew_T8 2, w ∈ lw_tbl := by decide +kernel
theorem ew_nm8 : ∀ a, a < 2 → ∀ b, b < 2 → a ≠ b → (ew_T8 a).2.1 ≠ (ew_T8 b).2.1 := by decide +kernel
theorem ew_ty8 : ∀ k, k < 2 → parseFieldDescriptor (ew_T8 k).2.2.1 = some (ew_Y8 k) := by decide +kernel
theorem ew_in9 : ∀ w ∈ u_ws "TraceProverModel" ew_T9 24, w ∈ lw_tbl := by decide +kernel
theorem ew_nm9 : ∀ a, a < 24 → ∀ b, b < 24 → a ≠ b → (ew_T9 a).2.1 ≠ (ew_T9 b).2.1 := by decide +kernel
theorem ew_ty9 : ∀ k, k < 24 → parseFieldDescriptor (ew_T9 k).2.2.1 = some (ew_Y9 k) := by decide +kernel
theorem ew_in : ∀ (c : Nat) (q : vw_C), ew_cl[c]? = some q → ∀ w ∈ u_ws q.1 q.2.1 q.2.2, w ∈ lw_tbl := by
  intro c q h
  match c, h with
  | 0, h => cases h; exact ew_in0
  | 1, h => cases h; exact ew_in1
  | 2, h => cases h; exact ew_in2
  | 3, h => cases h; exact ew_in3
  | 4, h => cases h; exact ew_in4
  | 5, h => cases h; exact ew_in5
  | 6, h => cases h; exact ew_in6
  | 7, h => cases h; exact ew_in7
  | 8, h => cases h; exact ew_in8
  | 9, h => cases h; exact ew_in9
  | c + 10, h => simp [ew_cl] at h
theorem ew_ty : ∀ (c : Nat) (q : vw_C), ew_cl[c]? = some q → ∃ y, ew_ys[c]? = some y ∧ (∀ k, k < q.2.2 → parseFieldDescriptor (q.2.1 k).2.2.1 = some (y k)) ∧ ∀ a, a < q.2.2 → ∀ b, b < q.2.2 → a ≠ b → (q.2.1 a).2.1 ≠ (q.2.1 b).2.1 := by
  intro c q h
  match c, h with
  | 0, h => cases h; exact ⟨ew_Y0, rfl, ew_ty0, ew_nm0⟩
  | 1, h => cases h; exact ⟨ew_Y1, rfl, ew_ty1, ew_nm1⟩
  | 2, h => cases h; exact ⟨ew_Y2, rfl, ew_ty2, ew_nm2⟩
  | 3, h => cases h; exact ⟨ew_Y3, rfl, ew_ty3, ew_nm3⟩
  | 4, h => cases h; exact ⟨ew_Y4, rfl, ew_ty4, ew_nm4⟩
  | 5, h => cases h; exact ⟨ew_Y5, rfl, ew_ty5, ew_nm5⟩
  | 6, h => cases h; exact ⟨ew_Y6, rfl, ew_ty6, ew_nm6⟩
  | 7, h => cases h; exact ⟨ew_Y7, rfl, ew_ty7, ew_nm7⟩
  | 8, h => cases h; exact ⟨ew_Y8, rfl, ew_ty8, ew_nm8⟩
  | 9, h => cases h; exact ⟨ew_Y9, rfl, ew_ty9, ew_nm9⟩
  | c + 10, h => simp [ew_cl] at h
