/-! ===== the log, the states, the time: the class's answers and the reference's ===== -/
/-- both refuse, for the same kind of reason, or both answer the same -/
def Ag2 (o : String ⊕ Int32) (m : Int32 × Int32) : Prop := (∃ E, o = .inl E ∧ m.2 = if E = eIO then 1 else 2) ∨ ∃ v, o = .inr v ∧ m = (v, 0)
theorem in300 {j : Nat} (h : j < 300) : vp_in (nI j) 300 := vp_in_nI h (by decide)
theorem lt_le (a b : Int32) : a < b ↔ ¬ b ≤ a := Int32.not_le.symm
