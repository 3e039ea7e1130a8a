theorem u_less {u y : Int32} (hu : M14 u) {k : Nat} (hk : k < 14) (h1 : bt u k = true) (h2 : bt y k = true) : cn (u &&& (y ^^^ (-1))) < cn u := by
  refine cn_sub_lt (j := k) (fun i hi => ?_) hk ?_ h1
  · rw [b_and, Bool.and_eq_true] at hi; exact hi.1
  · rw [b_and, not_b _ (by omega), h2]; exact Bool.and_false _
theorem u_sub {u y r : Int32} (h : Sub u r) : Sub (u &&& y) r := fun i hi => by
  rw [b_and, Bool.and_eq_true] at hi
  exact h i hi.1
/-- what is open after t nodes of the greedy diagnosis -/
def Gu (gu ga : AA) (r : Int32) : Nat → Int32
  | 0 => r
  | t + 1 => if Gu gu ga r t = 0 then 0 else Gu gu ga r t &&& (f_X1_explainedBy ga (f_X0_greedyNext r (f_X0_plausibleOf gu r) ga (Gu gu ga r t)) ^^^ (-1))
theorem Gu_sub (gu ga : AA) (r : Int32) : ∀ t, Sub (Gu gu ga r t) r
  | 0 => fun _ h => h
  | t + 1 => by
    rw [Gu]
    split
    · exact fun k hk => by rw [b_0] at hk; cases hk
    · exact u_sub (Gu_sub gu ga r t)
theorem Gu_cn {gn gu gb ga mn mu : AA} {r : Int32} (h : GI gn gu gb ga) (hs : SG gn gb mn mu) (hr : M14 r) : ∀ t, Gu gu ga r t ≠ 0 → cn (Gu gu ga r t) + t ≤ 14
  | 0, _ => by show cn r + 0 ≤ 14; have := cn_le r; omega
  | t + 1, hne => by
    by_cases c : Gu gu ga r t = 0
    · rw [Gu, if_pos c] at hne; exact absurd rfl hne
    · have ih := Gu_cn h hs hr t c
      obtain ⟨-, -, g, hg, e1, -, k, hk, hk1, hk2⟩ := greedy_same h hs hr (Gu_sub gu ga r t) c
      rw [Gu, if_neg c, e1]
      have := u_less ((Gu_sub gu ga r t).M hr) hk hk1 hk2
      omega
theorem Gu_end {gn gu gb ga mn mu : AA} {r : Int32} (h : GI gn gu gb ga) (hs : SG gn gb mn mu) (hr : M14 r) {t : Nat} (ht : 14 ≤ t) : Gu gu ga r t = 0 := Classical.byContradiction fun c => by
  have h1 := Gu_cn h hs hr t c
  obtain ⟨k, hk, hb⟩ := (nz_iff ((Gu_sub gu ga r t).M hr)).mp c
  have h2 : cn (Gu gu ga r t) ≠ 0 := fun e => by rw [cb_zero.mp e k hk] at hb; cases hb
  omega
theorem gcount_X {gn gu gb ga mn mu : AA} {r : Int32} (h : GI gn gu gb ga) (hs : SG gn gb mn mu) (hr : M14 r) : ∀ (c t n m : Nat), t + c = 14 → c < n → c + 1 < m →
    p_X0_greedyCount_L7 r (f_X0_plausibleOf gu r) ga n (Gu gu ga r t) (nI t) ∧ p_X5_greedyCauses_L12 r mn mu m (Gu gu ga r t) (nI t) ∧ ∃ k, k ≤ 14 ∧ (∃ x, f_X0_greedyCount_L7 r (f_X0_plausibleOf gu r) ga n (Gu gu ga r t) (nI t) = (x, nI k)) ∧ ∃ x, f_X5_greedyCauses_L12 r mn mu m (Gu gu ga r t) (nI t) = (x, nI k) := by
  intro c
  induction c with
  | zero =>
    intro t n m ht hn hm
    obtain ⟨n, rfl⟩ : ∃ k, n = k + 1 := ⟨n - 1, by omega⟩
    obtain ⟨m, rfl⟩ : ∃ k, m = k + 1 := ⟨m - 1, by omega⟩
    have e := Gu_end h hs hr (t := t) (by omega)
    refine ⟨?_, ?_, t, by omega, ⟨Gu gu ga r t, ?_⟩, ⟨Gu gu ga r t, ?_⟩⟩
    · rw [p_X0_greedyCount_L7]; exact ⟨fun _ => trivial, fun q => absurd e q⟩
    · rw [p_X5_greedyCauses_L12]; exact ⟨fun _ => trivial, fun q => absurd e q⟩
    · rw [f_X0_greedyCount_L7, if_pos e]
    · rw [f_X5_greedyCauses_L12, if_pos e]
  | succ c ih =>
    intro t n m ht hn hm
    obtain ⟨n, rfl⟩ : ∃ k, n = k + 1 := ⟨n - 1, by omega⟩
    obtain ⟨m, rfl⟩ : ∃ k, m = k + 1 := ⟨m - 1, by omega⟩
    have ht14 : t < 14 := by omega
    by_cases e : Gu gu ga r t = 0
    · refine ⟨?_, ?_, t, by omega, ⟨Gu gu ga r t, ?_⟩, ⟨Gu gu ga r t, ?_⟩⟩
      · rw [p_X0_greedyCount_L7]; exact ⟨fun _ => trivial, fun q => absurd e q⟩
      · rw [p_X5_greedyCauses_L12]; exact ⟨fun _ => trivial, fun q => absurd e q⟩
      · rw [f_X0_greedyCount_L7, if_pos e]
      · rw [f_X5_greedyCauses_L12, if_pos e]
    · obtain ⟨q1, q2, g, hg, e1, e2, -⟩ := greedy_same h hs hr (Gu_sub gu ga r t) e
      have hG : Gu gu ga r (t + 1) = Gu gu ga r t &&& (f_X1_explainedBy ga (nI g) ^^^ (-1)) := by rw [Gu, if_neg e, e1]
      obtain ⟨p1, p2, k, hk, ⟨x1, a1⟩, ⟨x2, a2⟩⟩ := ih (t + 1) n m (by omega) (by omega) (by omega)
      refine ⟨?_, ?_, k, hk, ⟨x1, ?_⟩, ⟨x2, ?_⟩⟩
      · rw [p_X0_greedyCount_L7]
        refine ⟨fun q => absurd q e, fun _ => ⟨fun q => absurd q (n14 ht14), fun _ => ⟨q1, ?_, fun y hy => ?_⟩⟩⟩
        · rw [e1]; exact ⟨in14 hg, trivial⟩
        · rw [e1, ← hG] at hy
          rw [← hy, nI_1]
          exact p1
      · rw [p_X5_greedyCauses_L12]
        refine ⟨fun q => absurd q e, fun _ => ⟨q2, ?_, ?_⟩⟩
        · rw [e2]; exact (ex5 h hs hg).1
        · rw [e2, (ex5 h hs hg).2, ← hG, nI_1]
          exact p2
      · rw [f_X0_greedyCount_L7, if_neg e, if_neg (n14 ht14), e1, ← hG, nI_1]
        exact a1
      · rw [f_X5_greedyCauses_L12, if_neg e, e2, (ex5 h hs hg).2, ← hG, nI_1]
        exact a2
theorem gcount {gn gu gb ga mn mu : AA} {r : Int32} (h : GI gn gu gb ga) (hs : SG gn gb mn mu) (hr : M14 r) : p_X0_greedyCount r (f_X0_plausibleOf gu r) ga ∧ p_X5_greedyCauses r mn mu ∧ f_X5_greedyCauses r mn mu = (f_X0_greedyCount r (f_X0_plausibleOf gu r) ga, 0) := by
  obtain ⟨p1, p2, k, _, ⟨x1, a1⟩, ⟨x2, a2⟩⟩ := gcount_X h hs hr 14 0 15 16 rfl (by decide) (by decide)
  rw [nI_0] at p1 p2 a1 a2
  have e : Gu gu ga r 0 = r := rfl
  rw [e] at p1 p2 a1 a2
  refine ⟨⟨p1, fun _ _ _ => trivial⟩, ⟨p2, fun _ _ _ => trivial⟩, ?_⟩
  unfold f_X5_greedyCauses f_X0_greedyCount
  rw [a1, a2]
/-- the place-th node of the greedy diagnosis -/
def Gn (gu ga : AA) (r : Int32) (t : Nat) : Int32 := if Gu gu ga r t = 0 then -1 else f_X0_greedyNext r (f_X0_plausibleOf gu r) ga (Gu gu ga r t)
theorem Gu_stay {gu ga : AA} {r : Int32} {t : Nat} (h : Gu gu ga r t = 0) : ∀ d, Gu gu ga r (t + d) = 0
  | 0 => h
  | d + 1 => by show Gu gu ga r (t + d + 1) = 0; rw [Gu, if_pos (Gu_stay h d)]
theorem gat_X {gn gu gb ga mn mu : AA} {r a : Int32} (h : GI gn gu gb ga) (hs : SG gn gb mn mu) (hr : M14 r) : ∀ (c t n : Nat), t + c = 14 → c < n → (∀ k, k < t → a ≠ nI k) →
    p_X0_greedyAt_L7 r (f_X0_plausibleOf gu r) ga a n (Gu gu ga r t) (nI t) ∧ ((∃ k, t ≤ k ∧ k < 14 ∧ a = nI k ∧ f_X0_greedyAt_L7 r (f_X0_plausibleOf gu r) ga a n (Gu gu ga r t) (nI t) = Gn gu ga r k) ∨ ((∀ k, k < 14 → a ≠ nI k) ∧ f_X0_greedyAt_L7 r (f_X0_plausibleOf gu r) ga a n (Gu gu ga r t) (nI t) = -1)) := by
  intro c
  induction c with
  | zero =>
    intro t n ht hn hq
    obtain ⟨n, rfl⟩ : ∃ k, n = k + 1 := ⟨n - 1, by omega⟩
    have e : t = 14 := by omega
    subst e
    refine ⟨?_, Or.inr ⟨hq, ?_⟩⟩
    · rw [p_X0_greedyAt_L7]; exact ⟨fun _ => trivial, fun q => absurd y14 q⟩
    · rw [f_X0_greedyAt_L7, if_pos y14]
  | succ c ih =>
    intro t n ht hn hq
    obtain ⟨n, rfl⟩ : ∃ k, n = k + 1 := ⟨n - 1, by omega⟩
    have ht14 : t < 14 := by omega
    by_cases e : Gu gu ga r t = 0
    · constructor
      · rw [p_X0_greedyAt_L7]; exact ⟨fun _ => trivial, fun _ => ⟨fun _ => trivial, fun q => absurd e q⟩⟩
      · have hv : f_X0_greedyAt_L7 r (f_X0_plausibleOf gu r) ga a (n + 1) (Gu gu ga r t) (nI t) = -1 := by rw [f_X0_greedyAt_L7, if_neg (n14 ht14), if_pos e]
        rw [hv]
        by_cases w : ∃ k, k < 14 ∧ a = nI k
        · obtain ⟨k, hk, hk2⟩ := w
          have htk : t ≤ k := by
            rcases Nat.lt_or_ge k t with z | z
            · exact absurd hk2 (hq k z)
            · exact z
          refine Or.inl ⟨k, htk, hk, hk2, ?_⟩
          have := Gu_stay e (k - t)
          rw [show t + (k - t) = k by omega] at this
          unfold Gn
          rw [if_pos this]
        · exact Or.inr ⟨fun k hk z => w ⟨k, hk, z⟩, rfl⟩
    · obtain ⟨q1, q2, g, hg, e1, e2, -⟩ := greedy_same h hs hr (Gu_sub gu ga r t) e
      have hG : Gu gu ga r (t + 1) = Gu gu ga r t &&& (f_X1_explainedBy ga (nI g) ^^^ (-1)) := by rw [Gu, if_neg e, e1]
      by_cases w : nI t = a
      · constructor
        · rw [p_X0_greedyAt_L7]; exact ⟨fun q => absurd q (n14 ht14), fun _ => ⟨fun q => absurd q e, fun _ => ⟨q1, fun _ => trivial, fun q => absurd w q⟩⟩⟩
        · refine Or.inl ⟨t, Nat.le_refl _, ht14, w.symm, ?_⟩
          rw [f_X0_greedyAt_L7, if_neg (n14 ht14), if_neg e, if_pos w]
          unfold Gn
          rw [if_neg e]
      · obtain ⟨p1, p2⟩ := ih (t + 1) n (by omega) (by omega) (fun k hk => by
          rcases Nat.lt_or_ge k t with z | z
          · exact hq k z
          · rw [show k = t by omega]; exact fun q => w q.symm)
        have hv : f_X0_greedyAt_L7 r (f_X0_plausibleOf gu r) ga a (n + 1) (Gu gu ga r t) (nI t) = f_X0_greedyAt_L7 r (f_X0_plausibleOf gu r) ga a n (Gu gu ga r (t + 1)) (nI (t + 1)) := by
          rw [f_X0_greedyAt_L7, if_neg (n14 ht14), if_neg e, if_neg w, e1, ← hG, nI_1]
        constructor
        · rw [p_X0_greedyAt_L7]
          refine ⟨fun q => absurd q (n14 ht14), fun _ => ⟨fun q => absurd q e, fun _ => ⟨q1, fun q => absurd q w, fun _ => ⟨?_, fun y hy => ?_⟩⟩⟩⟩
          · rw [e1]; exact ⟨in14 hg, trivial⟩
          · rw [e1, ← hG] at hy
            rw [← hy, nI_1]
            exact p1
        · rw [hv]
          rcases p2 with ⟨k, z1, z2, z3, z4⟩ | z
          · exact Or.inl ⟨k, by omega, z2, z3, z4⟩
          · exact Or.inr z
theorem gat_M {gn gu gb ga mn mu : AA} {r : Int32} (h : GI gn gu gb ga) (hs : SG gn gb mn mu) (hr : M14 r) {k : Nat} (hk : k < 14) : ∀ (c t n : Nat) (f : Int32), t + c = k + 1 → c < n → (0 < t → f = Gn gu ga r (t - 1)) → (t = 0 → f = -1) →
    p_X5_greedyCause_L10 r mn mu (nI k) n (Gu gu ga r t) f (nI t) ∧ ∃ x y, f_X5_greedyCause_L10 r mn mu (nI k) n (Gu gu ga r t) f (nI t) = (x, Gn gu ga r k, y) := by
  intro c
  induction c with
  | zero =>
    intro t n f ht hn hf _
    obtain ⟨n, rfl⟩ : ∃ k, n = k + 1 := ⟨n - 1, by omega⟩
    have e : nI k < nI t := nI_lt (by omega) (by omega)
    have ef := hf (by omega)
    rw [show t - 1 = k by omega] at ef
    subst ef
    refine ⟨?_, Gu gu ga r t, nI t, ?_⟩
    · rw [p_X5_greedyCause_L10]; exact ⟨fun _ => trivial, fun q => absurd e q⟩
    · rw [f_X5_greedyCause_L10, if_pos e]
  | succ c ih =>
    intro t n f ht hn hf hf0
    obtain ⟨n, rfl⟩ : ∃ k, n = k + 1 := ⟨n - 1, by omega⟩
    have e : ¬ nI k < nI t := nI_nlt (by omega) (by omega)
    by_cases z : Gu gu ga r t = 0
    · have z2 : Gu gu ga r (t + 1) = 0 := by rw [Gu, if_pos z]
      have z3 : Gn gu ga r t = -1 := by unfold Gn; rw [if_pos z]
      obtain ⟨p1, x, y, p2⟩ := ih (t + 1) n (-1) (by omega) (by omega) (fun _ => z3.symm) (fun q => by omega)
      have en : ¬ (0 : Int32) ≤ -1 := by decide
      have ez : Gu gu ga r t &&& 0 = Gu gu ga r (t + 1) := by rw [z2]; exact b_ext fun i _ => by rw [b_and, b_0, Bool.and_false]
      refine ⟨?_, x, y, ?_⟩
      · rw [p_X5_greedyCause_L10]
        refine ⟨fun q => absurd q e, fun _ => ⟨fun q => absurd q (n14 hk), fun _ => ⟨⟨fun _ => trivial, fun q => absurd z q⟩, fun v hv => ?_⟩⟩⟩
        rw [if_pos z] at hv
        subst hv
        refine ⟨⟨fun q => absurd q en, fun _ => trivial⟩, fun v hv => ?_⟩
        rw [if_neg en] at hv
        subst hv
        rw [ez, nI_1]
        exact p1
      · rw [f_X5_greedyCause_L10, if_neg e, if_neg (n14 hk)]
        dsimp only
        rw [if_pos z, if_neg en, ez, nI_1]
        exact p2
    · obtain ⟨q1, q2, g, hg, e1, e2, -⟩ := greedy_same h hs hr (Gu_sub gu ga r t) z
      have hG : Gu gu ga r (t + 1) = Gu gu ga r t &&& (f_X1_explainedBy ga (nI g) ^^^ (-1)) := by rw [Gu, if_neg z, e1]
      have z3 : Gn gu ga r t = nI g := by unfold Gn; rw [if_neg z, e1]
      have en : (0 : Int32) ≤ nI g := nI_pos' (by omega)
      obtain ⟨p1, x, y, p2⟩ := ih (t + 1) n (nI g) (by omega) (by omega) (fun _ => z3.symm) (fun q => by omega)
      refine ⟨?_, x, y, ?_⟩
      · rw [p_X5_greedyCause_L10]
        refine ⟨fun q => absurd q e, fun _ => ⟨fun q => absurd q (n14 hk), fun _ => ⟨⟨fun _ => trivial, fun _ => ⟨q2, trivial⟩⟩, fun v hv => ?_⟩⟩⟩
        rw [if_neg z, e2] at hv
        subst hv
        refine ⟨⟨fun _ => ⟨(ex5 h hs hg).1, trivial⟩, fun q => absurd en q⟩, fun v hv => ?_⟩
        rw [if_pos en, (ex5 h hs hg).2] at hv
        subst hv
        rw [← hG, nI_1]
        exact p1
      · rw [f_X5_greedyCause_L10, if_neg e, if_neg (n14 hk)]
        dsimp only
        rw [if_neg z, e2, if_pos en, (ex5 h hs hg).2, ← hG, nI_1]
        exact p2
