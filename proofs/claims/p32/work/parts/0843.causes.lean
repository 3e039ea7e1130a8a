/-! ===== what the calls on causes answer ===== -/
theorem i_sub1 (p c : Int32) : p - c - 1 = p - (c + 1) := by
  refine Int32.toBitVec_inj.mp ?_
  rw [Int32.toBitVec_sub, Int32.toBitVec_sub, Int32.toBitVec_sub, Int32.toBitVec_add]
  have key : ∀ P C D : BitVec 32, P - C - D = P - (C + D) := fun P C D => by bv_omega
  exact key _ _ _
theorem i_sub0 (p : Int32) : p - 0 = p := by
  refine Int32.toBitVec_inj.mp ?_
  rw [Int32.toBitVec_sub]
  exact BitVec.sub_zero _
theorem i_subz {p c : Int32} : p - c = 0 ↔ p = c := by
  constructor
  · intro h
    have h1 := congrArg Int32.toBitVec h
    rw [Int32.toBitVec_sub] at h1
    have key : ∀ P C : BitVec 32, P - C = 0#32 → P = C := fun P C q => by bv_omega
    exact Int32.toBitVec_inj.mp (key _ _ h1)
  · intro h
    subst h
    refine Int32.toBitVec_inj.mp ?_
    rw [Int32.toBitVec_sub]
    exact BitVec.sub_self _
def AtF (x p : Int32) (j : Nat) (f : Int32) : Prop := (∃ k, k < j ∧ bt x k = true ∧ p = nI (cb x k) ∧ f = nI k) ∨ ((∀ k, k < j → bt x k = true → p ≠ nI (cb x k)) ∧ f = -1)
/-- a place that a set has: told by the number, and by what is found there -/
theorem nap_none (x p : Int32) : f_X4_nodeAtPlace x p = -1 ↔ (p < 0 ∨ nI (cn x) ≤ p) := by
  have hcn := cn_le x
  rcases (nap_spec x p).2 with ⟨k, b1, b2, b3, b4⟩ | ⟨b1, b2⟩
  · rw [b4]
    have h1 := cb_strict b2 (Nat.lt_succ_self k)
    have h2 := cb_mono x (a := k + 1) (b := 14) (by omega)
    have h3 : cb x k < cn x := Nat.lt_of_lt_of_le h1 h2
    constructor
    · intro q; exact absurd q (nI_neg1 b1)
    · rintro (q | q)
      · rw [b3] at q; exact absurd q (nI_pos (by omega))
      · rw [b3] at q; exact absurd q (nI_ge h3 (by omega))
  · rw [b2]
    refine ⟨fun _ => ?_, fun _ => rfl⟩
    rcases pk_ix p (n := cn x) (by omega) with q | q | ⟨j, hj, q⟩
    · exact Or.inl q
    · exact Or.inr q
    · obtain ⟨k, c1, c2, c3⟩ := cb_kth (x := x) (c := j) (n := 14) hj
      exact absurd (by rw [q, c3]) (b1 k c1 c2)
/-- the class's answer and the reference's: both refuse, or both answer the same -/
def Ag1 (o : String ⊕ Int32) (m : Int32 × Int32) : Prop := (∃ E, o = .inl E ∧ m.2 = 1) ∨ ∃ v, o = .inr v ∧ m = (v, 0)
theorem diag_eq (r : Int32) (gu : AA) : f_X4_diagnoser r gu = (r, f_X0_plausibleOf gu r) := rfl
theorem diag_p {gu : AA} {r : Int32} (hu : RM gu) (hr : M14 r) : p_X4_diagnoser r gu := ⟨⟨(plOf hu hr).1, trivial⟩, fun _ _ _ => trivial⟩
theorem there (b p : Int32) : p_X4_nodeThere b p ∧ f_X4_nodeThere b p = if f_X4_nodeAtPlace b p = -1 then .inl eIO else .inr (f_X4_nodeAtPlace b p) := ⟨⟨(nap_spec b p).1, fun _ => trivial, fun _ => trivial⟩, rfl⟩
