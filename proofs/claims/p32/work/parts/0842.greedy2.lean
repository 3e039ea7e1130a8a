/-- what is open after t nodes of the greedy diagnosis -/
def Gu (gu ga : AA) (r : Int32) : Nat → Int32
  | 0 => r
  | t + 1 => if Gu gu ga r t = 0 then 0 else Gu gu ga r t &&& (f_X1_explainedBy ga (f_X0_greedyNext r (f_X0_plausibleOf gu r) ga (Gu gu ga r t)) ^^^ (-1))
theorem Gu_sub (gu ga : AA) (r : Int32) : ∀ t, Sub (Gu gu ga r t) r
  | 0 => fun _ h => h
  | t + 1 => by
    rw [Gu]
    split
    · exact fun k hk => by rw [b_0] at hk; cases hk
    · exact u_sub (Gu_sub gu ga r t)
theorem Gu_step {gn gu gb ga : AA} {r : Int32} (h : GI gn gu gb ga) (hr : M14 r) {t : Nat} (c : Gu gu ga r t ≠ 0) : p_X0_greedyNext r (f_X0_plausibleOf gu r) ga (Gu gu ga r t) ∧ ∃ g, g < 14 ∧ f_X0_greedyNext r (f_X0_plausibleOf gu r) ga (Gu gu ga r t) = nI g ∧ Gu gu ga r (t + 1) = Gu gu ga r t &&& (f_X1_explainedBy ga (nI g) ^^^ (-1)) ∧ bt (f_X0_plausibleOf gu r) g = true ∧ (∃ k, k < 14 ∧ bt (Gu gu ga r t) k = true ∧ bt (f_X1_explainedBy ga (nI g)) k = true) ∧ ∀ k, k < 14 → Gk (f_X0_plausibleOf gu r) ga (Gu gu ga r t) k ≤ Gk (f_X0_plausibleOf gu r) ga (Gu gu ga r t) g ∧ (Gk (f_X0_plausibleOf gu r) ga (Gu gu ga r t) k = Gk (f_X0_plausibleOf gu r) ga (Gu gu ga r t) g → Bs r g k) := by
  obtain ⟨p1, g, hg, e1, e2, e3, e4⟩ := greedy_next h hr (Gu_sub gu ga r t) c
  exact ⟨p1, g, hg, e1, by rw [Gu, if_neg c, e1], e2, e3, e4⟩
theorem Gu_cn {gn gu gb ga : AA} {r : Int32} (h : GI gn gu gb ga) (hr : M14 r) : ∀ t, Gu gu ga r t ≠ 0 → cn (Gu gu ga r t) + t ≤ 14
  | 0, _ => by show cn r + 0 ≤ 14; have := cn_le r; omega
  | t + 1, hne => by
    by_cases c : Gu gu ga r t = 0
    · rw [Gu, if_pos c] at hne; exact absurd rfl hne
    · have ih := Gu_cn h hr t c
      obtain ⟨-, g, hg, -, e1, -, ⟨k, hk, hk1, hk2⟩, -⟩ := Gu_step h hr c
      rw [e1]
      have := u_less ((Gu_sub gu ga r t).M hr) hk hk1 hk2
      omega
theorem Gu_end {gn gu gb ga : AA} {r : Int32} (h : GI gn gu gb ga) (hr : M14 r) {t : Nat} (ht : 14 ≤ t) : Gu gu ga r t = 0 := Classical.byContradiction fun c => by
  have h1 := Gu_cn h hr t c
  obtain ⟨k, hk, hb⟩ := (nz_iff ((Gu_sub gu ga r t).M hr)).mp c
  have h2 : cn (Gu gu ga r t) ≠ 0 := fun e => by rw [cb_zero.mp e k hk] at hb; cases hb
  omega
theorem Gu_stay {gu ga : AA} {r : Int32} {t : Nat} (h : Gu gu ga r t = 0) : ∀ d, Gu gu ga r (t + d) = 0
  | 0 => h
  | d + 1 => by show Gu gu ga r (t + d + 1) = 0; rw [Gu, if_pos (Gu_stay h d)]
def Gn (gu ga : AA) (r : Int32) (t : Nat) : Int32 := if Gu gu ga r t = 0 then -1 else f_X0_greedyNext r (f_X0_plausibleOf gu r) ga (Gu gu ga r t)
/-- how many nodes the greedy diagnosis has: the first t with nothing open -/
theorem gcount_X {gn gu gb ga : AA} {r : Int32} (h : GI gn gu gb ga) (hr : M14 r) : ∀ (c t n : Nat), t + c = 14 → c < n → (∀ k, k < t → Gu gu ga r k ≠ 0) →
    p_X0_greedyCount_L7 r (f_X0_plausibleOf gu r) ga n (Gu gu ga r t) (nI t) ∧ ∃ k, k ≤ 14 ∧ Gu gu ga r k = 0 ∧ (∀ s, s < k → Gu gu ga r s ≠ 0) ∧ ∃ x, f_X0_greedyCount_L7 r (f_X0_plausibleOf gu r) ga n (Gu gu ga r t) (nI t) = (x, nI k) := by
  intro c
  induction c with
  | zero =>
    intro t n ht hn hq
    obtain ⟨n, rfl⟩ : ∃ k, n = k + 1 := ⟨n - 1, by omega⟩
    have e := Gu_end h hr (t := t) (by omega)
    refine ⟨?_, t, by omega, e, hq, ⟨Gu gu ga r t, ?_⟩⟩
    · rw [p_X0_greedyCount_L7]; exact ⟨fun _ => trivial, fun q => absurd e q⟩
    · rw [f_X0_greedyCount_L7, if_pos e]
  | succ c ih =>
    intro t n ht hn hq
    obtain ⟨n, rfl⟩ : ∃ k, n = k + 1 := ⟨n - 1, by omega⟩
    have ht14 : t < 14 := by omega
    by_cases e : Gu gu ga r t = 0
    · refine ⟨?_, t, by omega, e, hq, ⟨Gu gu ga r t, ?_⟩⟩
      · rw [p_X0_greedyCount_L7]; exact ⟨fun _ => trivial, fun q => absurd e q⟩
      · rw [f_X0_greedyCount_L7, if_pos e]
    · obtain ⟨q1, g, hg, e1, hG, -⟩ := Gu_step h hr e
      obtain ⟨p1, k, hk, k1, k2, ⟨x1, a1⟩⟩ := ih (t + 1) n (by omega) (by omega) (fun k hk => by
        rcases Nat.lt_or_ge k t with z | z
        · exact hq k z
        · rw [show k = t by omega]; exact e)
      refine ⟨?_, k, hk, k1, k2, ⟨x1, ?_⟩⟩
      · rw [p_X0_greedyCount_L7]
        refine ⟨fun q => absurd q e, fun _ => ⟨fun q => absurd q (n14 ht14), fun _ => ⟨q1, ?_, fun y hy => ?_⟩⟩⟩
        · rw [e1]; exact ⟨in14 hg, trivial⟩
        · rw [e1, ← hG] at hy
          rw [← hy, nI_1]
          exact p1
      · rw [f_X0_greedyCount_L7, if_neg e, if_neg (n14 ht14), e1, ← hG, nI_1]
        exact a1
theorem gcount {gn gu gb ga : AA} {r : Int32} (h : GI gn gu gb ga) (hr : M14 r) : p_X0_greedyCount r (f_X0_plausibleOf gu r) ga ∧ ∃ k, k ≤ 14 ∧ f_X0_greedyCount r (f_X0_plausibleOf gu r) ga = nI k ∧ Gu gu ga r k = 0 ∧ ∀ s, s < k → Gu gu ga r s ≠ 0 := by
  obtain ⟨p1, k, hk, k1, k2, ⟨x1, a1⟩⟩ := gcount_X h hr 14 0 15 rfl (by decide) (fun k hk => absurd hk (Nat.not_lt_zero _))
  rw [nI_0] at p1 a1
  have e : Gu gu ga r 0 = r := rfl
  rw [e] at p1 a1
  refine ⟨⟨p1, fun _ _ _ => trivial⟩, k, hk, ?_, k1, k2⟩
  unfold f_X0_greedyCount
  rw [a1]
theorem gat_X {gn gu gb ga : AA} {r a : Int32} (h : GI gn gu gb ga) (hr : M14 r) : ∀ (c t n : Nat), t + c = 14 → c < n → (∀ k, k < t → a ≠ nI k) →
    p_X0_greedyAt_L7 r (f_X0_plausibleOf gu r) ga a n (Gu gu ga r t) (nI t) ∧ ((∃ k, t ≤ k ∧ k < 14 ∧ a = nI k ∧ f_X0_greedyAt_L7 r (f_X0_plausibleOf gu r) ga a n (Gu gu ga r t) (nI t) = Gn gu ga r k) ∨ ((∀ k, k < 14 → a ≠ nI k) ∧ f_X0_greedyAt_L7 r (f_X0_plausibleOf gu r) ga a n (Gu gu ga r t) (nI t) = -1)) := by
  intro c
  induction c with
  | zero =>
    intro t n ht hn hq
    obtain ⟨n, rfl⟩ : ∃ k, n = k + 1 := ⟨n - 1, by omega⟩
    have e : t = 14 := by omega
    subst e
    refine ⟨?_, Or.inr ⟨hq, ?_⟩⟩
    · rw [p_X0_greedyAt_L7]; exact ⟨fun _ => trivial, fun q => absurd y14 q⟩
    · rw [f_X0_greedyAt_L7, if_pos y14]
  | succ c ih =>
    intro t n ht hn hq
    obtain ⟨n, rfl⟩ : ∃ k, n = k + 1 := ⟨n - 1, by omega⟩
    have ht14 : t < 14 := by omega
    by_cases e : Gu gu ga r t = 0
    · constructor
      · rw [p_X0_greedyAt_L7]; exact ⟨fun _ => trivial, fun _ => ⟨fun _ => trivial, fun q => absurd e q⟩⟩
      · have hv : f_X0_greedyAt_L7 r (f_X0_plausibleOf gu r) ga a (n + 1) (Gu gu ga r t) (nI t) = -1 := by rw [f_X0_greedyAt_L7, if_neg (n14 ht14), if_pos e]
        rw [hv]
        by_cases w : ∃ k, k < 14 ∧ a = nI k
        · obtain ⟨k, hk, hk2⟩ := w
          have htk : t ≤ k := by
            rcases Nat.lt_or_ge k t with z | z
            · exact absurd hk2 (hq k z)
            · exact z
          refine Or.inl ⟨k, htk, hk, hk2, ?_⟩
          have := Gu_stay e (k - t)
          rw [show t + (k - t) = k by omega] at this
          unfold Gn
          rw [if_pos this]
        · exact Or.inr ⟨fun k hk z => w ⟨k, hk, z⟩, rfl⟩
    · obtain ⟨q1, g, hg, e1, hG, -⟩ := Gu_step h hr e
      by_cases w : nI t = a
      · constructor
        · rw [p_X0_greedyAt_L7]; exact ⟨fun q => absurd q (n14 ht14), fun _ => ⟨fun q => absurd q e, fun _ => ⟨q1, fun _ => trivial, fun q => absurd w q⟩⟩⟩
        · refine Or.inl ⟨t, Nat.le_refl _, ht14, w.symm, ?_⟩
          rw [f_X0_greedyAt_L7, if_neg (n14 ht14), if_neg e, if_pos w]
          unfold Gn
          rw [if_neg e]
      · obtain ⟨p1, p2⟩ := ih (t + 1) n (by omega) (by omega) (fun k hk => by
          rcases Nat.lt_or_ge k t with z | z
          · exact hq k z
          · rw [show k = t by omega]; exact fun q => w q.symm)
        have hv : f_X0_greedyAt_L7 r (f_X0_plausibleOf gu r) ga a (n + 1) (Gu gu ga r t) (nI t) = f_X0_greedyAt_L7 r (f_X0_plausibleOf gu r) ga a n (Gu gu ga r (t + 1)) (nI (t + 1)) := by
          rw [f_X0_greedyAt_L7, if_neg (n14 ht14), if_neg e, if_neg w, e1, ← hG, nI_1]
        constructor
        · rw [p_X0_greedyAt_L7]
          refine ⟨fun q => absurd q (n14 ht14), fun _ => ⟨fun q => absurd q e, fun _ => ⟨q1, fun q => absurd q w, fun _ => ⟨?_, fun y hy => ?_⟩⟩⟩⟩
          · rw [e1]; exact ⟨in14 hg, trivial⟩
          · rw [e1, ← hG] at hy
            rw [← hy, nI_1]
            exact p1
        · rw [hv]
          rcases p2 with ⟨k, z1, z2, z3, z4⟩ | z
          · exact Or.inl ⟨k, by omega, z2, z3, z4⟩
          · exact Or.inr z
