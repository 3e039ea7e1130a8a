/-! ===== which diagnosis is better ===== -/
def rv (x : Int32) : Nat → Nat
  | 0 => 0
  | k + 1 => 2 * rv x k + (if bt x k then 1 else 0)
theorem rv_keep {x y : Int32} {a : Nat} (h : rv x a < rv y a) : ∀ d, rv x (a + d) < rv y (a + d)
  | 0 => h
  | d + 1 => by
    have := rv_keep h d
    show 2 * rv x (a + d) + _ < 2 * rv y (a + d) + _
    split <;> split <;> omega
theorem rv_eq {x y : Int32} : ∀ {k : Nat}, (∀ i, i < k → bt x i = bt y i) → rv x k = rv y k
  | 0, _ => rfl
  | k + 1, h => by rw [rv, rv, rv_eq (fun i hi => h i (by omega)), h k (by omega)]
theorem rv_lt {x y : Int32} {k : Nat} (hk : k < 14) (h : ∀ i, i < k → bt x i = bt y i) (hx : bt x k = false) (hy : bt y k = true) : rv x 14 < rv y 14 := by
  have h1 : rv x (k + 1) < rv y (k + 1) := by rw [rv, rv, rv_eq h, hx, hy]; simp
  have h2 := rv_keep h1 (14 - (k + 1))
  rw [show k + 1 + (14 - (k + 1)) = 14 by omega] at h2
  exact h2
/-- one set is better than another one, by the raised nodes r -/
def Btr (r s t : Int32) : Prop := cn s < cn t ∨ (cn s = cn t ∧ (cn (t &&& r) < cn (s &&& r) ∨ (cn (t &&& r) = cn (s &&& r) ∧ rv t 14 < rv s 14)))
theorem Btr.irr {r s : Int32} : ¬ Btr r s s := by unfold Btr; omega
theorem Btr.trans {r s t u : Int32} : Btr r s t → Btr r t u → Btr r s u := by unfold Btr; omega
theorem Btr.asym {r s t : Int32} : Btr r s t → ¬ Btr r t s := by unfold Btr; omega
theorem Btr.total {r s t : Int32} (hs : M14 s) (ht : M14 t) (hne : s ≠ t) : Btr r s t ∨ Btr r t s := by
  have hd : rv s 14 < rv t 14 ∨ rv t 14 < rv s 14 := by
    rcases nap0 (s ^^^ t) with ⟨k, h1, h2, h3, _⟩ | ⟨h1, _⟩
    · have hb : ∀ i, i < k → bt s i = bt t i := fun i hi => by
        have := h3 i hi
        rw [b_xor] at this
        revert this
        cases bt s i <;> cases bt t i <;> simp
      rw [b_xor] at h2
      cases hx : bt s k
      · rw [hx, Bool.false_xor] at h2
        exact Or.inl (rv_lt h1 hb hx h2)
      · rw [hx, Bool.true_xor, Bool.not_eq_true'] at h2
        exact Or.inr (rv_lt h1 (fun i hi => (hb i hi).symm) h2 hx)
    · exact absurd (M14.ext hs ht fun i hi => by
        have := h1 i hi
        rw [b_xor] at this
        revert this
        cases bt s i <;> cases bt t i <;> simp) hne
  unfold Btr
  omega
theorem cnI {x y : Int32} : nI (cn x) = nI (cn y) ↔ cn x = cn y := nI_eq (by have := cn_le x; omega) (by have := cn_le y; omega)
theorem cnL {x y : Int32} : nI (cn x) ≤ nI (cn y) ↔ cn x ≤ cn y := nI_leI (by have := cn_le x; omega) (by have := cn_le y; omega)
theorem rv_of_diff {s t : Int32} {k : Nat} (h1 : k < 14) (h2 : bt (s ^^^ t) k = true) (h3 : ∀ i, i < k → bt (s ^^^ t) i = false) : (bt s k = true ∧ rv t 14 < rv s 14) ∨ (bt s k = false ∧ rv s 14 < rv t 14) := by
  have hb : ∀ i, i < k → bt s i = bt t i := fun i hi => by
    have := h3 i hi
    rw [b_xor] at this
    revert this
    cases bt s i <;> cases bt t i <;> simp
  rw [b_xor] at h2
  cases hx : bt s k
  · rw [hx, Bool.false_xor] at h2
    exact Or.inr ⟨rfl, rv_lt h1 hb hx h2⟩
  · rw [hx, Bool.true_xor, Bool.not_eq_true'] at h2
    exact Or.inl ⟨rfl, rv_lt h1 (fun i hi => (hb i hi).symm) h2 hx⟩
theorem rv_same {s t : Int32} (h : ∀ k, k < 14 → bt (s ^^^ t) k = false) : rv s 14 = rv t 14 := rv_eq fun i hi => by
  have := h i hi
  rw [b_xor] at this
  revert this
  cases bt s i <;> cases bt t i <;> simp
theorem better4 {r s t : Int32} (hs : M14 s) (ht : M14 t) : p_X0_isBetter r s t ∧ (f_X0_isBetter r s t = 0 ↔ ¬ Btr r s t) := by
  constructor
  · unfold p_X0_isBetter
    have := (nap_spec (s ^^^ t) 0).1
    simp only [this, true_and, and_true, implies_true]
  · unfold f_X0_isBetter
    rw [count6 hs, count6 ht, count6 (hs.and r), count6 (ht.and r)]
    dsimp only
    unfold Btr
    by_cases c1 : cn s = cn t
    · rw [if_pos (cnI.mpr c1)]
      by_cases c2 : cn (s &&& r) = cn (t &&& r)
      · rw [if_pos (cnI.mpr c2)]
        rcases nap0 (s ^^^ t) with ⟨k, h1, h2, h3, h4⟩ | ⟨h1, h2⟩
        · rw [h4, if_neg (nI_neg1 h1)]
          rcases rv_of_diff h1 h2 h3 with ⟨h5, h6⟩ | ⟨h5, h6⟩
          · rw [if_neg (fun c => by rw [(has4_0 s (n := k) (by omega)).mp c] at h5; cases h5)]
            constructor
            · intro c; exact absurd c (by decide)
            · omega
          · rw [if_pos ((has4_0 s (n := k) (by omega)).mpr h5)]
            constructor
            · omega
            · intro _; rfl
        · rw [h2, if_pos rfl]
          have := rv_same h1
          constructor
          · omega
          · intro _; rfl
      · rw [if_neg (fun c => c2 (cnI.mp c))]
        by_cases c3 : cn (s &&& r) ≤ cn (t &&& r)
        · rw [if_pos (cnL.mpr c3)]
          constructor
          · omega
          · intro _; rfl
        · rw [if_neg (fun c => c3 (cnL.mp c))]
          constructor
          · intro c; exact absurd c (by decide)
          · omega
    · rw [if_neg (fun c => c1 (cnI.mp c))]
      by_cases c3 : cn t ≤ cn s
      · rw [if_pos (cnL.mpr c3)]
        constructor
        · omega
        · intro _; rfl
      · rw [if_neg (fun c => c3 (cnL.mp c))]
        constructor
        · intro c; exact absurd c (by decide)
        · omega
/-- the lowest bit alone -/
theorem low_b {x : Int32} (i : Nat) (hi : i < 32) : bt (x &&& (-x)) i = true ↔ bt x i = true ∧ ∀ j, j < i → bt x j = false := by
  rw [b_and, Bool.and_eq_true]
  have e : bt (-x) i = (bt x i ^^ decide (∃ j, j < i ∧ bt x j = true)) := by
    show (-x).toBitVec.getLsbD i = _
    rw [Int32.toBitVec_neg, BitVec.getLsbD_neg]
    simp only [hi, decide_true, Bool.true_and]
    rfl
  rw [e]
  constructor
  · rintro ⟨h1, h2⟩
    refine ⟨h1, fun j hj => ?_⟩
    rw [h1, Bool.true_xor, Bool.not_eq_true'] at h2
    cases hb : bt x j
    · rfl
    · exact absurd ⟨j, hj, hb⟩ (of_decide_eq_false h2)
  · rintro ⟨h1, h2⟩
    refine ⟨h1, ?_⟩
    rw [h1, Bool.true_xor, Bool.not_eq_true']
    exact decide_eq_false fun ⟨j, hj, hb⟩ => by rw [h2 j hj] at hb; cases hb
