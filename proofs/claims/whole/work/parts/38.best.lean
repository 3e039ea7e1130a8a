/-! ===== the reference's 'explained' ===== -/
def exbit (mu : AA) (s : Int32) (k o : Nat) : Int32 := if f_X5_has s (nI o) = 0 then (0 : Int32) else (if nI k = nI o then (1 <<< (nI k &&& 31)) else (if f_X5_has (mu k) (nI o) = 0 then (0 : Int32) else (1 <<< (nI k &&& 31))))
theorem exbit_b {mu : AA} {s : Int32} {k o : Nat} (hk : k < 14) (ho : o < 14) (t : Nat) : bt (exbit mu s k o) t = true ↔ t = k ∧ bt s o = true ∧ (o = k ∨ bt (mu k) o = true) := by
  unfold exbit
  have h1 := has5_0 s (n := o) (by omega)
  have h2 := has5_0 (mu k) (n := o) (by omega)
  have h3 : nI k = nI o ↔ k = o := nI_eq (by omega) (by omega)
  cases hb : bt s o
  · rw [if_pos (h1.mpr hb), b_0]; simp
  · rw [if_neg (fun c => by rw [h1.mp c] at hb; cases hb)]
    by_cases e : k = o
    · rw [if_pos (h3.mpr e), one_eq, only_bT hk]; simp [e]
    · rw [if_neg (fun c => e (h3.mp c))]
      cases hc : bt (mu k) o
      · rw [if_pos (h2.mpr hc), b_0]
        simp
        intro _ q
        exact absurd q.symm e
      · rw [if_neg (fun c => by rw [h2.mp c] at hc; cases hc), one_eq, only_bT hk]; simp
theorem expl13 {mu : AA} {s : Int32} {k : Nat} (hk : k < 14) : ∀ (c j n : Nat) (v : Int32), j + c = 14 → c < n →
    p_X5_explained_L13 mu s (nI k) n v (nI j) ∧ ∃ w, f_X5_explained_L13 mu s (nI k) n v (nI j) = (w, nI 14) ∧ ∀ t, (bt w t = true ↔ bt v t = true ∨ (t = k ∧ ∃ o, j ≤ o ∧ o < 14 ∧ (bt s o = true ∧ (o = k ∨ bt (mu k) o = true)))) := by
  intro c
  induction c with
  | zero =>
    intro j n v hj hn
    obtain ⟨n, rfl⟩ : ∃ k, n = k + 1 := ⟨n - 1, by omega⟩
    have e : j = 14 := by omega
    subst e
    refine ⟨?_, v, ?_, fun t => ⟨Or.inl, ?_⟩⟩
    · rw [p_X5_explained_L13]; exact ⟨fun _ => trivial, fun h => absurd y14 h⟩
    · rw [f_X5_explained_L13, if_pos y14]
    · rintro (h | ⟨_, o, h1, h2, _⟩)
      · exact h
      · omega
  | succ c ih =>
    intro j n v hj hn
    obtain ⟨n, rfl⟩ : ∃ k, n = k + 1 := ⟨n - 1, by omega⟩
    have hj14 : j < 14 := by omega
    obtain ⟨a1, w, a2, a3⟩ := ih (j + 1) n (v ||| exbit mu s k j) (by omega) (by omega)
    refine ⟨?_, w, ?_, fun t => ?_⟩
    · rw [p_X5_explained_L13]
      refine ⟨fun h => absurd h (n14 hj14), fun _ => ?_⟩
      rw [cl (j := k) (by omega), nI_1]
      refine ⟨⟨fun _ => trivial, fun _ => ⟨fun _ => trivial, fun _ => ⟨in14 hk, fun _ => trivial, fun _ => trivial⟩⟩⟩, fun z hz => ?_⟩
      rw [← hz]
      exact a1
    · rw [f_X5_explained_L13, if_neg (n14 hj14), cl (j := k) (by omega), nI_1]
      exact a2
    · rw [a3 t, b_or, Bool.or_eq_true, exbit_b hk hj14, in_or (p := fun o => bt s o = true ∧ (o = k ∨ bt (mu k) o = true)) (q := fun _ => True) (j := j)]
      constructor
      · rintro ((h | ⟨h1, h2⟩) | ⟨h1, h2⟩)
        · exact Or.inl h
        · exact Or.inr ⟨h1, Or.inl ⟨hj14, h2⟩⟩
        · exact Or.inr ⟨h1, Or.inr h2⟩
      · rintro (h | ⟨h1, ⟨_, h2⟩ | h2⟩)
        · exact Or.inl (Or.inl h)
        · exact Or.inl (Or.inr ⟨h1, h2⟩)
        · exact Or.inr ⟨h1, h2⟩
theorem expl4 {mu : AA} {s : Int32} : ∀ (c j n : Nat) (v : Int32), j + c = 14 → c < n →
    p_X5_explained_L4 mu s n v (nI j) ∧ ∃ w, f_X5_explained_L4 mu s n v (nI j) = (w, nI 14) ∧ ∀ t, (bt w t = true ↔ bt v t = true ∨ (j ≤ t ∧ t < 14 ∧ ∃ o, o < 14 ∧ bt s o = true ∧ (o = t ∨ bt (mu t) o = true))) := by
  intro c
  induction c with
  | zero =>
    intro j n v hj hn
    obtain ⟨n, rfl⟩ : ∃ k, n = k + 1 := ⟨n - 1, by omega⟩
    have e : j = 14 := by omega
    subst e
    refine ⟨?_, v, ?_, fun t => ⟨Or.inl, ?_⟩⟩
    · rw [p_X5_explained_L4]; exact ⟨fun _ => trivial, fun h => absurd y14 h⟩
    · rw [f_X5_explained_L4, if_pos y14]
    · rintro (h | ⟨h1, h2, _⟩)
      · exact h
      · omega
  | succ c ih =>
    intro j n v hj hn
    obtain ⟨n, rfl⟩ : ∃ k, n = k + 1 := ⟨n - 1, by omega⟩
    have hj14 : j < 14 := by omega
    obtain ⟨b1, x, b2, b3⟩ := expl13 (mu := mu) (s := s) hj14 14 0 15 v rfl (by decide)
    rw [nI_0] at b1 b2
    obtain ⟨a1, w, a2, a3⟩ := ih (j + 1) n x (by omega) (by omega)
    refine ⟨?_, w, ?_, fun t => ?_⟩
    · rw [p_X5_explained_L4]
      refine ⟨fun h => absurd h (n14 hj14), fun _ => ⟨b1, fun y1 y2 hy => ?_⟩⟩
      rw [b2] at hy
      cases hy
      rw [nI_1]
      exact a1
    · rw [f_X5_explained_L4, if_neg (n14 hj14), b2, nI_1]
      exact a2
    · rw [a3 t, b3 t]
      constructor
      · rintro ((h | ⟨h1, o, _, h2, h3⟩) | ⟨h1, h2, h3⟩)
        · exact Or.inl h
        · subst h1; exact Or.inr ⟨Nat.le_refl _, hj14, o, h2, h3⟩
        · exact Or.inr ⟨by omega, h2, h3⟩
      · rintro (h | ⟨h1, h2, h3⟩)
        · exact Or.inl (Or.inl h)
        · rcases Nat.lt_or_ge j t with q | q
          · exact Or.inr ⟨q, h2, h3⟩
          · have e : t = j := by omega
            subst e
            obtain ⟨o, h4, h5⟩ := h3
            exact Or.inl (Or.inr ⟨rfl, o, Nat.zero_le _, h4, h5⟩)
theorem expl5 {gn gb mn mu : AA} (hs : SG gn gb mn mu) {r s : Int32} (hr : M14 r) : p_X5_explained mu s ∧ (f_X5_explained mu s &&& r = r ↔ EX gb r s) := by
  obtain ⟨a1, w, a2, a3⟩ := expl4 (mu := mu) (s := s) 14 0 15 0 rfl (by decide)
  rw [nI_0] at a1 a2
  have e : f_X5_explained mu s = w := by unfold f_X5_explained; rw [a2]
  refine ⟨⟨a1, fun _ _ _ => trivial⟩, ?_⟩
  rw [e]
  constructor
  · intro h k hk hb
    have h1 := b_and w r k
    rw [h, hb, Bool.and_true] at h1
    rcases (a3 k).mp h1.symm with q | ⟨_, _, o, h2, h3, h4⟩
    · rw [b_0] at q; cases q
    · rw [(hs k hk).2] at h4
      exact ⟨o, h2, h3, h4⟩
  · intro h
    refine M14.ext (hr.andR w) hr fun k hk => ?_
    rw [b_and]
    cases hb : bt r k
    · exact Bool.and_false _
    · rw [Bool.and_true]
      obtain ⟨o, h2, h3, h4⟩ := h k hk hb
      exact (a3 k).mpr (Or.inr ⟨Nat.zero_le _, hk, o, h2, h3, by rw [(hs k hk).2]; exact h4⟩)
/-! ===== the subsets of a set, one after the other ===== -/
def Sub (s p : Int32) : Prop := ∀ k, bt s k = true → bt p k = true
theorem Sub.M {s p : Int32} (h : Sub s p) (hp : M14 p) : M14 s := fun i hi => by
  cases hb : bt s i
  · rfl
  · have := h i hb
    rw [hp i hi] at this
    cases this
/-- the number of a subset -/
def cm (p s : Int32) : Nat → Nat
  | 0 => 0
  | k + 1 => cm p s k + (if bt s k then 2 ^ cb p k else 0)
theorem cm_lt {p s : Int32} (h : Sub s p) : ∀ k, cm p s k + 1 ≤ 2 ^ cb p k
  | 0 => Nat.le_refl _
  | k + 1 => by
    have ih := cm_lt h k
    rw [cm, cb]
    cases hs : bt s k
    · rw [if_neg (by decide)]
      have : 2 ^ cb p k ≤ 2 ^ (cb p k + if bt p k = true then 1 else 0) := Nat.pow_le_pow_right (by decide) (Nat.le_add_right _ _)
      omega
    · rw [if_pos rfl, h k hs, if_pos rfl, Nat.pow_succ]
      omega
theorem cm_full (p : Int32) : ∀ k, cm p p k + 1 = 2 ^ cb p k
  | 0 => rfl
  | k + 1 => by
    have ih := cm_full p k
    rw [cm, cb]
    cases hs : bt p k
    · rw [if_neg (by decide), if_neg (by decide)]; exact ih
    · rw [if_pos rfl, if_pos rfl, Nat.pow_succ]; omega
theorem cm_inj {p s d : Int32} (hs : Sub s p) (hd : Sub d p) : ∀ k, cm p s k = cm p d k → ∀ i, i < k → bt s i = bt d i
  | 0, _, i, hi => absurd hi (Nat.not_lt_zero i)
  | k + 1, h, i, hi => by
    rw [cm, cm] at h
    have l1 := cm_lt hs k
    have l2 := cm_lt hd k
    have hb : bt s k = bt d k := by
      revert h
      cases bt s k <;> cases bt d k <;> simp <;> omega
    rcases Nat.lt_or_ge i k with q | q
    · rw [hb] at h
      exact cm_inj hs hd k (by omega) i q
    · rw [show i = k by omega]; exact hb
theorem cm_one {p s d : Int32} (hp : M14 p) (hs : Sub s p) (hd : Sub d p) (h : cm p s 14 = cm p d 14) : s = d := M14.ext (hs.M hp) (hd.M hp) (cm_inj hs hd 14 h)
/-- the subset before: by its bits -/
def Prd (p s s' : Int32) : Prop := ∀ i, i < 14 → (bt s' i = true ↔ bt p i = true ∧ ((bt s i = true ∧ ∃ j, j < i ∧ bt s j = true) ∨ (bt s i = false ∧ ¬ ∃ j, j < i ∧ bt s j = true)))
theorem cm_prd {p s s' : Int32} (h : Sub s p) (hp : Prd p s s') : ∀ k, k ≤ 14 → ((∀ i, i < k → bt s i = false) → cm p s' k = cm p p k ∧ cm p s k = 0) ∧ ((∃ i, i < k ∧ bt s i = true) → cm p s' k + 1 = cm p s k)
  | 0, _ => ⟨fun _ => ⟨rfl, rfl⟩, fun ⟨i, hi, _⟩ => absurd hi (Nat.not_lt_zero i)⟩
  | k + 1, hk => by
    obtain ⟨h1, h2⟩ := cm_prd h hp k (by omega)
    have hq := hp k (by omega)
    constructor
    · intro hn
      obtain ⟨h3, h4⟩ := h1 (fun i hi => hn i (by omega))
      have hne : ¬ ∃ j, j < k ∧ bt s j = true := fun ⟨j, hj, hb⟩ => by rw [hn j (by omega)] at hb; cases hb
      have e : bt s' k = bt p k := by
        rw [Bool.eq_iff_iff, hq, hn k (by omega)]
        simp only [Bool.false_eq_true, false_and, true_and, false_or]
        exact ⟨fun q => q.1, fun q => ⟨q, hne⟩⟩
      rw [cm, cm, cm, h3, h4, e, hn k (by omega)]
      exact ⟨rfl, rfl⟩
    · rintro ⟨i, hi, hb⟩
      by_cases c : ∃ j, j < k ∧ bt s j = true
      · have h3 := h2 c
        have e : bt s' k = bt s k := by
          rw [Bool.eq_iff_iff, hq]
          constructor
          · rintro ⟨_, (⟨q, _⟩ | ⟨_, q⟩)⟩
            · exact q
            · exact absurd c q
          · intro q
            exact ⟨h k q, Or.inl ⟨q, c⟩⟩
        rw [cm, cm, e]
        omega
      · have hn : ∀ j, j < k → bt s j = false := fun j hj => by
          cases hc : bt s j
          · rfl
          · exact absurd ⟨j, hj, hc⟩ c
        have hbk : bt s k = true := by
          rcases Nat.lt_or_ge i k with q | q
          · rw [hn i q] at hb; cases hb
          · rw [show k = i by omega]; exact hb
        obtain ⟨h3, h4⟩ := h1 hn
        have e : bt s' k = false := by
          cases hc : bt s' k
          · rfl
          · rcases (hq.mp hc).2 with ⟨_, q⟩ | ⟨q, _⟩
            · exact absurd q c
            · rw [hbk] at q; cases q
        have h5 := cm_full p k
        rw [cm, cm, h3, h4, e, hbk]
        simp
        omega
theorem cm_prd14 {p s s' : Int32} (hp : M14 p) (h : Sub s p) (hq : Prd p s s') (hne : s ≠ 0) : cm p s' 14 + 1 = cm p s 14 := (cm_prd h hq 14 (Nat.le_refl _)).2 ((nz_iff (h.M hp)).mp hne)
theorem cm_zero {p s : Int32} (hp : M14 p) (h : Sub s p) : cm p s 14 = 0 ↔ s = 0 := by
  constructor
  · intro e
    refine cm_one hp h (fun k hk => by rw [b_0] at hk; cases hk) ?_
    rw [e]
    have : ∀ k, cm p 0 k = 0 := fun k => by
      induction k with
      | zero => rfl
      | succ k ih => rw [cm, ih, b_0]; rfl
    exact (this 14).symm
  · intro e
    subst e
    have : ∀ k, cm p 0 k = 0 := fun k => by
      induction k with
      | zero => rfl
      | succ k ih => rw [cm, ih, b_0]; rfl
    exact this 14
theorem neg_b {x : Int32} {i : Nat} (hi : i < 32) : bt (-x) i = (bt x i ^^ decide (∃ j, j < i ∧ bt x j = true)) := by
  show (-x).toBitVec.getLsbD i = _
  rw [Int32.toBitVec_neg, BitVec.getLsbD_neg]
  simp only [hi, decide_true, Bool.true_and]
  rfl
theorem pred_eq (s : Int32) : s - 1 = (-s) ^^^ (-1) := by
  refine Int32.toBitVec_inj.mp ?_
  rw [Int32.toBitVec_sub, Int32.toBitVec_xor, Int32.toBitVec_neg]
  show s.toBitVec - 1#32 = (-s.toBitVec) ^^^ BitVec.allOnes 32
  rw [BitVec.xor_allOnes, BitVec.not_eq_neg_add, BitVec.neg_neg, BitVec.sub_eq_add_neg]
theorem prd_sub1 {p s : Int32} : Prd p s ((s - 1) &&& p) := fun i hi => by
  rw [pred_eq, b_and, not_b _ (by omega), neg_b (by omega), Bool.and_eq_true, and_comm]
  refine and_congr Iff.rfl ?_
  by_cases c : ∃ j, j < i ∧ bt s j = true
  · rw [decide_eq_true c]
    cases bt s i <;> simp [c]
  · rw [decide_eq_false c]
    cases bt s i <;> simp [c]
theorem Sub.andR (x p : Int32) : Sub (x &&& p) p := fun k hk => by
  rw [b_and, Bool.and_eq_true] at hk
  exact hk.2
