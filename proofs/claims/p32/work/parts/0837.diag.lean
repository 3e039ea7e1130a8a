/-! ===== plausible nodes, what explains what ===== -/
def PL (gu : AA) (r : Int32) (k : Nat) : Prop := bt r k = true ∨ (gu k ≠ 0 ∧ gu k &&& (r ^^^ (-1)) = 0)
theorem sub_iff {x r : Int32} (hx : M14 x) : x &&& (r ^^^ (-1)) = 0 ↔ ∀ t, t < 14 → bt x t = true → bt r t = true := by
  rw [z_iff (hx.and _)]
  constructor
  · intro h t ht hb
    have := h t ht
    rw [b_and, hb, Bool.true_and, not_b _ (by omega)] at this
    cases hr : bt r t
    · rw [hr] at this; cases this
    · rfl
  · intro h t ht
    rw [b_and, not_b _ (by omega)]
    cases hb : bt x t
    · rfl
    · rw [h t ht hb]; rfl
theorem sub_iff2 {x r : Int32} (hx : M14 x) : x &&& r = x ↔ ∀ t, t < 14 → bt x t = true → bt r t = true := by
  constructor
  · intro h t ht hb
    have h1 := b_and x r t
    rw [h, hb, Bool.true_and] at h1
    exact h1.symm
  · intro h
    refine M14.ext (hx.and _) hx fun t ht => ?_
    rw [b_and]
    cases hb : bt x t
    · rfl
    · rw [h t ht hb]; rfl
theorem plOf_L {gu : AA} {r : Int32} (hu : RM gu) : ∀ (c j n : Nat) (v : Int32), j + c = 14 → c < n → M14 v →
    p_X0_plausibleOf_L4 gu r n v (nI j) ∧ ∃ w, f_X0_plausibleOf_L4 gu r n v (nI j) = (w, nI 14) ∧ M14 w ∧ ∀ t, (bt w t = true ↔ bt v t = true ∨ (j ≤ t ∧ t < 14 ∧ (gu t ≠ 0 ∧ gu t &&& (r ^^^ (-1)) = 0))) := by
  intro c
  induction c with
  | zero =>
    intro j n v hj hn hv
    obtain ⟨n, rfl⟩ : ∃ k, n = k + 1 := ⟨n - 1, by omega⟩
    have e : j = 14 := by omega
    subst e
    refine ⟨?_, v, ?_, hv, fun t => ⟨Or.inl, ?_⟩⟩
    · rw [p_X0_plausibleOf_L4]; exact ⟨fun _ => trivial, fun h => absurd y14 h⟩
    · rw [f_X0_plausibleOf_L4, if_pos y14]
    · rintro (h | ⟨h1, h2, _⟩)
      · exact h
      · omega
  | succ c ih =>
    intro j n v hj hn hv
    obtain ⟨n, rfl⟩ : ∃ k, n = k + 1 := ⟨n - 1, by omega⟩
    have hj14 : j < 14 := by omega
    have eu : f_X1_users gu (nI j) = gu j := by unfold f_X1_users; rw [cl (by omega)]
    have pu : p_X1_users (nI j) := ⟨in14 hj14, trivial⟩
    by_cases c1 : gu j = 0
    · obtain ⟨a1, w, a2, a3, a4⟩ := ih (j + 1) n v (by omega) (by omega) hv
      refine ⟨?_, w, ?_, a3, fun t => ?_⟩
      · rw [p_X0_plausibleOf_L4]
        refine ⟨fun h => absurd h (n14 hj14), fun _ => ⟨pu, ?_⟩⟩
        rw [eu, nI_1]
        exact ⟨fun _ => a1, fun h => absurd c1 h⟩
      · rw [f_X0_plausibleOf_L4, if_neg (n14 hj14), eu, if_pos c1, nI_1]; exact a2
      · rw [a4 t]
        refine or_congr Iff.rfl ⟨fun ⟨h1, h2⟩ => ⟨by omega, h2⟩, fun ⟨h1, h2, h3⟩ => ⟨?_, h2, h3⟩⟩
        rcases Nat.lt_or_ge j t with q | q
        · exact q
        · rw [show t = j by omega] at h3; exact absurd c1 h3.1
    · by_cases c2 : gu j &&& (r ^^^ (-1)) = 0
      · obtain ⟨a1, w, a2, a3, a4⟩ := ih (j + 1) n (v ||| f_X4_only (nI j)) (by omega) (by omega) (hv.or (only_M hj14))
        refine ⟨?_, w, ?_, a3, fun t => ?_⟩
        · rw [p_X0_plausibleOf_L4]
          refine ⟨fun h => absurd h (n14 hj14), fun _ => ⟨pu, ?_⟩⟩
          rw [eu, nI_1]
          exact ⟨fun h => absurd h c1, fun _ => ⟨fun _ => a1, fun h => absurd c2 h⟩⟩
        · rw [f_X0_plausibleOf_L4, if_neg (n14 hj14), eu, if_neg c1, if_pos c2, nI_1]; exact a2
        · rw [a4 t, b_or, Bool.or_eq_true, only_bT hj14]
          constructor
          · rintro ((h | h) | ⟨h1, h2, h3⟩)
            · exact Or.inl h
            · subst h; exact Or.inr ⟨Nat.le_refl _, hj14, c1, c2⟩
            · exact Or.inr ⟨by omega, h2, h3⟩
          · rintro (h | ⟨h1, h2, h3⟩)
            · exact Or.inl (Or.inl h)
            · rcases Nat.lt_or_ge j t with q | q
              · exact Or.inr ⟨q, h2, h3⟩
              · exact Or.inl (Or.inr (by omega))
      · obtain ⟨a1, w, a2, a3, a4⟩ := ih (j + 1) n v (by omega) (by omega) hv
        refine ⟨?_, w, ?_, a3, fun t => ?_⟩
        · rw [p_X0_plausibleOf_L4]
          refine ⟨fun h => absurd h (n14 hj14), fun _ => ⟨pu, ?_⟩⟩
          rw [eu, nI_1]
          exact ⟨fun h => absurd h c1, fun _ => ⟨fun h => absurd h c2, fun _ => a1⟩⟩
        · rw [f_X0_plausibleOf_L4, if_neg (n14 hj14), eu, if_neg c1, if_neg c2, nI_1]; exact a2
        · rw [a4 t]
          refine or_congr Iff.rfl ⟨fun ⟨h1, h2⟩ => ⟨by omega, h2⟩, fun ⟨h1, h2, h3⟩ => ⟨?_, h2, h3⟩⟩
          rcases Nat.lt_or_ge j t with q | q
          · exact q
          · rw [show t = j by omega] at h3; exact absurd h3.2 c2
theorem plOf {gu : AA} {r : Int32} (hu : RM gu) (hr : M14 r) : p_X0_plausibleOf gu r ∧ M14 (f_X0_plausibleOf gu r) ∧ ∀ k, k < 14 → (bt (f_X0_plausibleOf gu r) k = true ↔ PL gu r k) := by
  obtain ⟨a1, w, a2, a3, a4⟩ := plOf_L (r := r) hu 14 0 15 r rfl (by decide) hr
  rw [nI_0] at a1 a2
  have e : f_X0_plausibleOf gu r = w := by unfold f_X0_plausibleOf; rw [a2]
  rw [e]
  refine ⟨⟨a1, fun _ _ _ => trivial⟩, a3, fun k hk => ?_⟩
  rw [a4 k]
  exact or_congr Iff.rfl ⟨fun ⟨_, _, h⟩ => h, fun h => ⟨Nat.zero_le _, hk, h⟩⟩
theorem explainedBy_b {ga : AA} {i t : Nat} (hi : i < 14) : bt (f_X1_explainedBy ga (nI i)) t = true ↔ t = i ∨ bt (ga i) t = true := by
  unfold f_X1_explainedBy
  rw [cl (j := i) (by omega), b_or, Bool.or_eq_true, only_bT hi]
theorem explainersOf_b {gb : AA} {i t : Nat} (hi : i < 14) : bt (f_X1_explainersOf gb (nI i)) t = true ↔ t = i ∨ bt (gb i) t = true := by
  unfold f_X1_explainersOf
  rw [cl (j := i) (by omega), b_or, Bool.or_eq_true, only_bT hi]
theorem explainedBy_M {gn gu gb ga : AA} (h : GI gn gu gb ga) {i : Nat} (hi : i < 14) : M14 (f_X1_explainedBy ga (nI i)) := by
  unfold f_X1_explainedBy
  rw [cl (j := i) (by omega)]
  exact (only_M hi).or (h.2.2.2.2.1 i hi).2
theorem explainersOf_M {gn gu gb ga : AA} (h : GI gn gu gb ga) {i : Nat} (hi : i < 14) : M14 (f_X1_explainersOf gb (nI i)) := by
  unfold f_X1_explainersOf
  rw [cl (j := i) (by omega)]
  exact (only_M hi).or (h.2.2.2.2.1 i hi).1
theorem GI.ba {gn gu gb ga : AA} (h : GI gn gu gb ga) {i j : Nat} (hi : i < 14) (hj : j < 14) : bt (ga j) i = true ↔ bt (gb i) j = true := (h.2.2.2.2.2 i j hi hj).2.trans (h.2.2.2.2.2 i j hi hj).1.symm
/-- a set explains all raised nodes -/
def EX (gb : AA) (r s : Int32) : Prop := ∀ k, k < 14 → bt r k = true → ∃ o, o < 14 ∧ bt s o = true ∧ (o = k ∨ bt (gb k) o = true)
theorem exAll_L {gn gu gb ga : AA} (h : GI gn gu gb ga) {r s : Int32} (hsM : M14 s) : ∀ (c j n : Nat), j + c = 14 → c < n → p_X0_explainsAll_L2 r gb s n (nI j) ∧ (f_X0_explainsAll_L2 r gb s n (nI j) = 0 ↔ ¬ ∀ k, j ≤ k → k < 14 → bt r k = true → ∃ o, o < 14 ∧ bt s o = true ∧ (o = k ∨ bt (gb k) o = true)) := by
  intro c
  induction c with
  | zero =>
    intro j n hj hn
    obtain ⟨n, rfl⟩ : ∃ k, n = k + 1 := ⟨n - 1, by omega⟩
    have e : j = 14 := by omega
    subst e
    constructor
    · rw [p_X0_explainsAll_L2]; exact ⟨fun _ => trivial, fun h => absurd y14 h⟩
    · rw [f_X0_explainsAll_L2, if_pos y14]
      constructor
      · intro q; exact absurd q (by decide)
      · intro q; exact absurd (fun k h1 h2 => by omega) q
  | succ c ih =>
    intro j n hj hn
    obtain ⟨n, rfl⟩ : ∃ k, n = k + 1 := ⟨n - 1, by omega⟩
    have hj14 : j < 14 := by omega
    obtain ⟨a1, a2⟩ := ih (j + 1) n (by omega) (by omega)
    have hh := has4_0 r (n := j) (by omega)
    have pe : p_X1_explainersOf (nI j) := ⟨in14 hj14, trivial⟩
    have hk : f_X1_explainersOf gb (nI j) &&& s = 0 ↔ ¬ ∃ o, o < 14 ∧ bt s o = true ∧ (o = j ∨ bt (gb j) o = true) := by
      rw [z_iff ((explainersOf_M h hj14).and s)]
      constructor
      · rintro q ⟨o, ho, h1, h2⟩
        have h3 := q o ho
        rw [b_and, h1, Bool.and_true, (explainersOf_b hj14).mpr h2] at h3
        cases h3
      · intro q o ho
        rw [b_and]
        cases hb : bt s o
        · rw [Bool.and_false]
        · rw [Bool.and_true]
          cases hc : bt (f_X1_explainersOf gb (nI j)) o
          · rfl
          · exact absurd ⟨o, ho, hb, (explainersOf_b hj14).mp hc⟩ q
    cases hb : bt r j
    · constructor
      · rw [p_X0_explainsAll_L2]; exact ⟨fun h => absurd h (n14 hj14), fun _ => ⟨fun _ => by rw [nI_1]; exact a1, fun h => absurd (hh.mpr hb) h⟩⟩
      · rw [f_X0_explainsAll_L2, if_neg (n14 hj14), if_pos (hh.mpr hb), nI_1, a2]
        refine not_congr ⟨fun q k h1 h2 h3 => ?_, fun q k h1 h2 h3 => q k (by omega) h2 h3⟩
        rcases Nat.lt_or_ge j k with z | z
        · exact q k z h2 h3
        · rw [show k = j by omega, hb] at h3; cases h3
    · have hnb : ¬ f_X4_has r (nI j) = 0 := fun c => by rw [hh.mp c] at hb; cases hb
      by_cases c : f_X1_explainersOf gb (nI j) &&& s = 0
      · constructor
        · rw [p_X0_explainsAll_L2]; exact ⟨fun h => absurd h (n14 hj14), fun _ => ⟨fun h => absurd h hnb, fun _ => ⟨pe, fun _ => trivial, fun h => absurd c h⟩⟩⟩
        · rw [f_X0_explainsAll_L2, if_neg (n14 hj14), if_neg hnb, if_pos c]
          constructor
          · intro _ q
            exact hk.mp c (q j (Nat.le_refl _) hj14 hb)
          · intro _; rfl
      · constructor
        · rw [p_X0_explainsAll_L2]; exact ⟨fun h => absurd h (n14 hj14), fun _ => ⟨fun h => absurd h hnb, fun _ => ⟨pe, fun h => absurd h c, fun _ => by rw [nI_1]; exact a1⟩⟩⟩
        · rw [f_X0_explainsAll_L2, if_neg (n14 hj14), if_neg hnb, if_neg c, nI_1, a2]
          refine not_congr ⟨fun q k h1 h2 h3 => ?_, fun q k h1 h2 h3 => q k (by omega) h2 h3⟩
          rcases Nat.lt_or_ge j k with z | z
          · exact q k z h2 h3
          · rw [show k = j by omega]
            exact Classical.byContradiction fun w => c (hk.mpr w)
theorem exAll {gn gu gb ga : AA} (h : GI gn gu gb ga) {r s : Int32} (hsM : M14 s) : p_X0_explainsAll r gb s ∧ (f_X0_explainsAll r gb s = 0 ↔ ¬ EX gb r s) := by
  obtain ⟨a1, a2⟩ := exAll_L h (r := r) hsM 14 0 15 rfl (by decide)
  rw [nI_0] at a1 a2
  exact ⟨a1, a2.trans (not_congr ⟨fun q k h1 h2 => q k (Nat.zero_le _) h1 h2, fun q k _ h1 h2 => q k h1 h2⟩)⟩
