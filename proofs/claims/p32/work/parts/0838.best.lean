/-! ===== the subsets of a set, one after the other ===== -/
def Sub (s p : Int32) : Prop := ∀ k, bt s k = true → bt p k = true
theorem Sub.M {s p : Int32} (h : Sub s p) (hp : M14 p) : M14 s := fun i hi => by
  cases hb : bt s i
  · rfl
  · have := h i hb
    rw [hp i hi] at this
    cases this
/-- the number of a subset -/
def cm (p s : Int32) : Nat → Nat
  | 0 => 0
  | k + 1 => cm p s k + (if bt s k then 2 ^ cb p k else 0)
theorem cm_lt {p s : Int32} (h : Sub s p) : ∀ k, cm p s k + 1 ≤ 2 ^ cb p k
  | 0 => Nat.le_refl _
  | k + 1 => by
    have ih := cm_lt h k
    rw [cm, cb]
    cases hs : bt s k
    · rw [if_neg (by decide)]
      have : 2 ^ cb p k ≤ 2 ^ (cb p k + if bt p k = true then 1 else 0) := Nat.pow_le_pow_right (by decide) (Nat.le_add_right _ _)
      omega
    · rw [if_pos rfl, h k hs, if_pos rfl, Nat.pow_succ]
      omega
theorem cm_full (p : Int32) : ∀ k, cm p p k + 1 = 2 ^ cb p k
  | 0 => rfl
  | k + 1 => by
    have ih := cm_full p k
    rw [cm, cb]
    cases hs : bt p k
    · rw [if_neg (by decide), if_neg (by decide)]; exact ih
    · rw [if_pos rfl, if_pos rfl, Nat.pow_succ]; omega
theorem cm_inj {p s d : Int32} (hs : Sub s p) (hd : Sub d p) : ∀ k, cm p s k = cm p d k → ∀ i, i < k → bt s i = bt d i
  | 0, _, i, hi => absurd hi (Nat.not_lt_zero i)
  | k + 1, h, i, hi => by
    rw [cm, cm] at h
    have l1 := cm_lt hs k
    have l2 := cm_lt hd k
    have hb : bt s k = bt d k := by
      revert h
      cases bt s k <;> cases bt d k <;> simp <;> omega
    rcases Nat.lt_or_ge i k with q | q
    · rw [hb] at h
      exact cm_inj hs hd k (by omega) i q
    · rw [show i = k by omega]; exact hb
theorem cm_one {p s d : Int32} (hp : M14 p) (hs : Sub s p) (hd : Sub d p) (h : cm p s 14 = cm p d 14) : s = d := M14.ext (hs.M hp) (hd.M hp) (cm_inj hs hd 14 h)
/-- the subset before: by its bits -/
def Prd (p s s' : Int32) : Prop := ∀ i, i < 14 → (bt s' i = true ↔ bt p i = true ∧ ((bt s i = true ∧ ∃ j, j < i ∧ bt s j = true) ∨ (bt s i = false ∧ ¬ ∃ j, j < i ∧ bt s j = true)))
theorem cm_prd {p s s' : Int32} (h : Sub s p) (hp : Prd p s s') : ∀ k, k ≤ 14 → ((∀ i, i < k → bt s i = false) → cm p s' k = cm p p k ∧ cm p s k = 0) ∧ ((∃ i, i < k ∧ bt s i = true) → cm p s' k + 1 = cm p s k)
  | 0, _ => ⟨fun _ => ⟨rfl, rfl⟩, fun ⟨i, hi, _⟩ => absurd hi (Nat.not_lt_zero i)⟩
  | k + 1, hk => by
    obtain ⟨h1, h2⟩ := cm_prd h hp k (by omega)
    have hq := hp k (by omega)
    constructor
    · intro hn
      obtain ⟨h3, h4⟩ := h1 (fun i hi => hn i (by omega))
      have hne : ¬ ∃ j, j < k ∧ bt s j = true := fun ⟨j, hj, hb⟩ => by rw [hn j (by omega)] at hb; cases hb
      have e : bt s' k = bt p k := by
        rw [Bool.eq_iff_iff, hq, hn k (by omega)]
        simp only [Bool.false_eq_true, false_and, true_and, false_or]
        exact ⟨fun q => q.1, fun q => ⟨q, hne⟩⟩
      rw [cm, cm, cm, h3, h4, e, hn k (by omega)]
      exact ⟨rfl, rfl⟩
    · rintro ⟨i, hi, hb⟩
      by_cases c : ∃ j, j < k ∧ bt s j = true
      · have h3 := h2 c
        have e : bt s' k = bt s k := by
          rw [Bool.eq_iff_iff, hq]
          constructor
          · rintro ⟨_, (⟨q, _⟩ | ⟨_, q⟩)⟩
            · exact q
            · exact absurd c q
          · intro q
            exact ⟨h k q, Or.inl ⟨q, c⟩⟩
        rw [cm, cm, e]
        omega
      · have hn : ∀ j, j < k → bt s j = false := fun j hj => by
          cases hc : bt s j
          · rfl
          · exact absurd ⟨j, hj, hc⟩ c
        have hbk : bt s k = true := by
          rcases Nat.lt_or_ge i k with q | q
          · rw [hn i q] at hb; cases hb
          · rw [show k = i by omega]; exact hb
        obtain ⟨h3, h4⟩ := h1 hn
        have e : bt s' k = false := by
          cases hc : bt s' k
          · rfl
          · rcases (hq.mp hc).2 with ⟨_, q⟩ | ⟨q, _⟩
            · exact absurd q c
            · rw [hbk] at q; cases q
        have h5 := cm_full p k
        rw [cm, cm, h3, h4, e, hbk]
        simp
        omega
theorem cm_prd14 {p s s' : Int32} (hp : M14 p) (h : Sub s p) (hq : Prd p s s') (hne : s ≠ 0) : cm p s' 14 + 1 = cm p s 14 := (cm_prd h hq 14 (Nat.le_refl _)).2 ((nz_iff (h.M hp)).mp hne)
theorem cm_zero {p s : Int32} (hp : M14 p) (h : Sub s p) : cm p s 14 = 0 ↔ s = 0 := by
  constructor
  · intro e
    refine cm_one hp h (fun k hk => by rw [b_0] at hk; cases hk) ?_
    rw [e]
    have : ∀ k, cm p 0 k = 0 := fun k => by
      induction k with
      | zero => rfl
      | succ k ih => rw [cm, ih, b_0]; rfl
    exact (this 14).symm
  · intro e
    subst e
    have : ∀ k, cm p 0 k = 0 := fun k => by
      induction k with
      | zero => rfl
      | succ k ih => rw [cm, ih, b_0]; rfl
    exact this 14
theorem neg_b {x : Int32} {i : Nat} (hi : i < 32) : bt (-x) i = (bt x i ^^ decide (∃ j, j < i ∧ bt x j = true)) := by
  show (-x).toBitVec.getLsbD i = _
  rw [Int32.toBitVec_neg, BitVec.getLsbD_neg]
  simp only [hi, decide_true, Bool.true_and]
  rfl
theorem pred_eq (s : Int32) : s - 1 = (-s) ^^^ (-1) := by
  refine Int32.toBitVec_inj.mp ?_
  rw [Int32.toBitVec_sub, Int32.toBitVec_xor, Int32.toBitVec_neg]
  show s.toBitVec - 1#32 = (-s.toBitVec) ^^^ BitVec.allOnes 32
  rw [BitVec.xor_allOnes, BitVec.not_eq_neg_add, BitVec.neg_neg, BitVec.sub_eq_add_neg]
theorem prd_sub1 {p s : Int32} : Prd p s ((s - 1) &&& p) := fun i hi => by
  rw [pred_eq, b_and, not_b _ (by omega), neg_b (by omega), Bool.and_eq_true, and_comm]
  refine and_congr Iff.rfl ?_
  by_cases c : ∃ j, j < i ∧ bt s j = true
  · rw [decide_eq_true c]
    cases bt s i <;> simp [c]
  · rw [decide_eq_false c]
    cases bt s i <;> simp [c]
theorem Sub.andR (x p : Int32) : Sub (x &&& p) p := fun k hk => by
  rw [b_and, Bool.and_eq_true] at hk
  exact hk.2
