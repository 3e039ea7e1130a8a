/-! ===== the greedy diagnosis ===== -/
/-- how many of the open nodes a plausible node explains -/
def Gk (p : Int32) (ga : AA) (u : Int32) (k : Nat) : Nat := if bt p k then cn (f_X1_explainedBy ga (nI k) &&& u) else 0
theorem Gk_le (p : Int32) (ga : AA) (u : Int32) (k : Nat) : Gk p ga u k ≤ 14 := by
  unfold Gk
  split
  · exact cn_le _
  · omega
theorem gx_val {gn gu gb ga : AA} (h : GI gn gu gb ga) {p u : Int32} {j : Nat} (hj : j < 14) : (if f_X4_has p (nI j) = 0 then (0 : Int32) else f_J6_bitCount_0f7a4 (f_X1_explainedBy ga (nI j) &&& u)) = nI (Gk p ga u j) := by
  have hh := has4_0 p (n := j) (by omega)
  unfold Gk
  cases hb : bt p j
  · rw [if_pos (hh.mpr hb)]; rfl
  · rw [if_neg (fun c => by rw [hh.mp c] at hb; cases hb), count6 ((explainedBy_M h hj).and u)]; rfl
theorem gI {a b : Nat} (ha : a ≤ 14) (hb : b ≤ 14) : (nI a < nI b ↔ a < b) ∧ (nI a = nI b ↔ a = b) ∧ (nI a ≤ 0 ↔ a = 0) := ⟨nI_ltI (by omega) (by omega), nI_eq (by omega) (by omega), by rw [show (0 : Int32) = nI 0 from rfl, nI_leI (by omega) (by decide)]; omega⟩
/-- of two nodes that explain as many the first is taken before the second -/
def Bs (r : Int32) (x k : Nat) : Prop := (bt r x = true ∧ bt r k = false) ∨ (bt r x = bt r k ∧ x ≤ k)
/-- where the loop stands -/
def GS (p : Int32) (ga : AA) (r u : Int32) (j a x : Nat) : Prop := x < 14 ∧ a ≤ 14 ∧ (a ≠ 0 → x < j ∧ Gk p ga u x = a ∧ ∀ k, k < j → Gk p ga u k = a → Bs r x k) ∧ ∀ k, k < j → Gk p ga u k ≤ a
theorem greedy_L {gn gu gb ga : AA} {r u p : Int32} (h : GI gn gu gb ga) : ∀ (c j n : Nat) (a x : Nat), j + c = 14 → c < n → GS p ga r u j a x →
    p_X0_greedyNext_L7 r p ga u n (nI x) (nI a) (nI j) ∧ ∃ a' x', f_X0_greedyNext_L7 r p ga u n (nI x) (nI a) (nI j) = (nI x', nI a', nI 14) ∧ GS p ga r u 14 a' x' := by
  intro c
  induction c with
  | zero =>
    intro j n a x hj hn hG
    obtain ⟨n, rfl⟩ : ∃ k, n = k + 1 := ⟨n - 1, by omega⟩
    have e : j = 14 := by omega
    subst e
    refine ⟨?_, a, x, ?_, hG⟩
    · rw [p_X0_greedyNext_L7]; exact ⟨fun _ => trivial, fun h => absurd y14 h⟩
    · rw [f_X0_greedyNext_L7, if_pos y14]
  | succ c ih =>
    intro j n a x hj hn hG
    obtain ⟨n, rfl⟩ : ∃ k, n = k + 1 := ⟨n - 1, by omega⟩
    have hj14 : j < 14 := by omega
    obtain ⟨hx, ha, h1, hk⟩ := id hG
    have vx := gx_val h (p := p) (u := u) hj14
    obtain ⟨b, hb⟩ : ∃ b, b = Gk p ga u j := ⟨_, rfl⟩
    have hb14 : b ≤ 14 := by rw [hb]; exact Gk_le _ _ _ _
    rw [← hb] at vx
    obtain ⟨i1, i2, i3⟩ := gI ha hb14
    obtain ⟨-, i5, i6⟩ := gI hb14 ha
    have take : a < b ∨ (b = a ∧ b ≠ 0 ∧ bt r j = true ∧ bt r x = false) → GS p ga r u (j + 1) b j := fun q => by
      refine ⟨hj14, hb14, fun hne => ⟨Nat.lt_succ_self _, hb.symm, fun k hk2 hk3 => ?_⟩, fun k hk2 => ?_⟩
      · rcases Nat.lt_or_ge k j with w | w
        · have hka := hk k w
          rcases q with q | ⟨q1, q2, q3, q4⟩
          · omega
          · obtain ⟨-, -, h3⟩ := h1 (by omega)
            rcases h3 k w (by omega) with ⟨z, -⟩ | ⟨z, -⟩
            · rw [q4] at z; cases z
            · exact Or.inl ⟨q3, by rw [← z]; exact q4⟩
        · rw [show k = j by omega]; exact Or.inr ⟨rfl, Nat.le_refl _⟩
      · rcases Nat.lt_or_ge k j with w | w
        · have := hk k w; omega
        · rw [show k = j by omega, ← hb]; exact Nat.le_refl _
    have leave : ¬ (a < b ∨ (b = a ∧ b ≠ 0 ∧ bt r j = true ∧ bt r x = false)) → GS p ga r u (j + 1) a x := fun q => by
      have hba : b ≤ a := by omega
      refine ⟨hx, ha, fun hne => ?_, fun k hk2 => ?_⟩
      · obtain ⟨g1, g2, g3⟩ := h1 hne
        refine ⟨by omega, g2, fun k hk2 hk3 => ?_⟩
        rcases Nat.lt_or_ge k j with w | w
        · exact g3 k w hk3
        · have ek : k = j := by omega
          subst ek
          have eb : b = a := by rw [hb]; exact hk3
          cases hbx : bt r x
          · cases hbj : bt r k
            · exact Or.inr ⟨by rw [hbx, hbj], by omega⟩
            · exact absurd (Or.inr ⟨eb, by omega, hbj, hbx⟩) q
          · cases hbj : bt r k
            · exact Or.inl ⟨hbx, hbj⟩
            · exact Or.inr ⟨by rw [hbx, hbj], by omega⟩
      · rcases Nat.lt_or_ge k j with w | w
        · exact hk k w
        · rw [show k = j by omega, ← hb]; exact hba
    have hr4 := has4_0 r (n := j) (by omega)
    have hx4 := has4_0 r (n := x) (by omega)
    obtain ⟨y, hy⟩ : ∃ y : Int32, y = (if nI b = nI a then (if f_X4_has r (nI j) = 0 then (0 : Int32) else (if f_X4_has r (nI x) = 0 then (1 : Int32) else (0 : Int32))) else (0 : Int32)) := ⟨_, rfl⟩
    have hy0 : y = 0 ↔ ¬ (b = a ∧ bt r j = true ∧ bt r x = false) := by
      rw [hy]
      by_cases e : b = a
      · rw [if_pos (i5.mpr e)]
        cases hbj : bt r j
        · rw [if_pos (hr4.mpr hbj)]; simp
        · rw [if_neg (fun c => by rw [hr4.mp c] at hbj; cases hbj)]
          cases hbx : bt r x
          · rw [if_pos (hx4.mpr hbx)]; simp [e]
          · rw [if_neg (fun c => by rw [hx4.mp c] at hbx; cases hbx)]; simp
      · rw [if_neg (fun c => e (i5.mp c))]; simp [e]
    have pB : p_X1_explainedBy (nI j) := ⟨in14 hj14, trivial⟩
    by_cases w : a < b ∨ (b = a ∧ b ≠ 0 ∧ bt r j = true ∧ bt r x = false)
    · obtain ⟨p1, a', x', e1, e3⟩ := ih (j + 1) n b j (by omega) (by omega) (take w)
      refine ⟨?_, a', x', ?_, e3⟩
      · rw [p_X0_greedyNext_L7]
        refine ⟨fun h => absurd h (n14 hj14), fun _ => ⟨⟨fun _ => trivial, fun _ => ⟨pB, trivial⟩⟩, fun v hv => ?_⟩⟩
        rw [vx] at hv
        subst hv
        refine ⟨⟨fun _ => ⟨fun _ => trivial, fun _ => ⟨fun _ => trivial, fun _ => trivial⟩⟩, fun _ => trivial⟩, fun v hv => ?_⟩
        rw [← hy] at hv
        subst hv
        rw [nI_1]
        rcases w with w | ⟨w1, w2, w3, w4⟩
        · exact ⟨fun _ => p1, fun c => absurd (i1.mpr w) c⟩
        · exact ⟨fun _ => p1, fun _ => ⟨fun c => absurd (i6.mp c) w2, fun _ => ⟨fun c => absurd ⟨w1, w3, w4⟩ (hy0.mp c), fun _ => p1⟩⟩⟩
      · rw [f_X0_greedyNext_L7, if_neg (n14 hj14)]
        dsimp only
        rw [vx, ← hy, nI_1]
        rcases w with w | ⟨w1, w2, w3, w4⟩
        · rw [if_pos (i1.mpr w)]; exact e1
        · rw [if_neg (fun c => by have := i1.mp c; omega), if_neg (fun c => w2 (i6.mp c)), if_neg (fun c => (hy0.mp c) ⟨w1, w3, w4⟩)]; exact e1
    · obtain ⟨p1, a', x', e1, e3⟩ := ih (j + 1) n a x (by omega) (by omega) (leave w)
      have w1 : ¬ nI a < nI b := fun c => w (Or.inl (i1.mp c))
      have w2 : ¬ nI b ≤ 0 → y = 0 := fun c => hy0.mpr fun ⟨q1, q2, q3⟩ => w (Or.inr ⟨q1, fun q => c (i6.mpr q), q2, q3⟩)
      refine ⟨?_, a', x', ?_, e3⟩
      · rw [p_X0_greedyNext_L7]
        refine ⟨fun h => absurd h (n14 hj14), fun _ => ⟨⟨fun _ => trivial, fun _ => ⟨pB, trivial⟩⟩, fun v hv => ?_⟩⟩
        rw [vx] at hv
        subst hv
        refine ⟨⟨fun _ => ⟨fun _ => trivial, fun _ => ⟨fun _ => trivial, fun _ => trivial⟩⟩, fun _ => trivial⟩, fun v hv => ?_⟩
        rw [← hy] at hv
        subst hv
        rw [nI_1]
        exact ⟨fun c => absurd c w1, fun _ => ⟨fun _ => p1, fun c => ⟨fun _ => p1, fun c2 => absurd (w2 c) c2⟩⟩⟩
      · rw [f_X0_greedyNext_L7, if_neg (n14 hj14)]
        dsimp only
        rw [vx, ← hy, nI_1, if_neg w1]
        by_cases c : nI b ≤ 0
        · rw [if_pos c]; exact e1
        · rw [if_neg c, if_pos (w2 c)]; exact e1
/-- the next node of the greedy diagnosis -/
theorem greedy_next {gn gu gb ga : AA} {r u : Int32} (h : GI gn gu gb ga) (hr : M14 r) (hur : Sub u r) (hu0 : u ≠ 0) : p_X0_greedyNext r (f_X0_plausibleOf gu r) ga u ∧
    ∃ g, g < 14 ∧ f_X0_greedyNext r (f_X0_plausibleOf gu r) ga u = nI g ∧ bt (f_X0_plausibleOf gu r) g = true ∧ (∃ k, k < 14 ∧ bt u k = true ∧ bt (f_X1_explainedBy ga (nI g)) k = true) ∧ ∀ k, k < 14 → Gk (f_X0_plausibleOf gu r) ga u k ≤ Gk (f_X0_plausibleOf gu r) ga u g ∧ (Gk (f_X0_plausibleOf gu r) ga u k = Gk (f_X0_plausibleOf gu r) ga u g → Bs r g k) := by
  obtain ⟨p1, a, x, e1, ⟨hx, ha, h1, e4⟩⟩ := greedy_L (u := u) (p := f_X0_plausibleOf gu r) (r := r) h 14 0 15 0 0 rfl (by decide) ⟨by decide, by decide, fun q => absurd rfl q, fun k hk => absurd hk (Nat.not_lt_zero _)⟩
  rw [nI_0] at p1 e1
  have q : a ≠ 0 := fun q => by
    obtain ⟨k, hk, hb⟩ := (nz_iff (hur.M hr)).mp hu0
    have h5 := e4 k hk
    have hpk : bt (f_X0_plausibleOf gu r) k = true := plSub h.2.1 hr k (hur k hb)
    unfold Gk at h5
    rw [if_pos hpk] at h5
    have h7 : cb (f_X1_explainedBy ga (nI k) &&& u) 14 ≠ 0 := fun c => by
      have := cb_zero.mp c k hk
      rw [b_and, hb, (explainedBy_b hk).mpr (Or.inl rfl)] at this
      cases this
    exact h7 (by unfold cn at h5; omega)
  obtain ⟨-, g2, g3⟩ := h1 q
  refine ⟨⟨p1, fun _ _ _ _ => trivial⟩, x, hx, ?_, ?_, ?_, fun k hk => ⟨by rw [g2]; exact e4 k hk, fun z => g3 k hk (by rw [← g2]; exact z)⟩⟩
  · unfold f_X0_greedyNext; rw [e1]
  · unfold Gk at g2
    by_cases c : bt (f_X0_plausibleOf gu r) x = true
    · exact c
    · rw [if_neg c] at g2; exact absurd g2.symm q
  · have h5 := g2
    unfold Gk at h5
    split at h5
    · have h7 : cb (f_X1_explainedBy ga (nI x) &&& u) 14 ≠ 0 := fun c => q (by rw [← h5]; exact c)
      have h8 : ∃ k, k < 14 ∧ bt (f_X1_explainedBy ga (nI x) &&& u) k = true := Classical.byContradiction fun w => h7 (cb_zero.mpr fun i hi => by
        cases hb : bt (f_X1_explainedBy ga (nI x) &&& u) i
        · rfl
        · exact absurd ⟨i, hi, hb⟩ w)
      obtain ⟨k, hk, hb⟩ := h8
      rw [b_and, Bool.and_eq_true] at hb
      exact ⟨k, hk, hb.2, hb.1⟩
    · exact absurd h5.symm q
theorem u_less {u y : Int32} (hu : M14 u) {k : Nat} (hk : k < 14) (h1 : bt u k = true) (h2 : bt y k = true) : cn (u &&& (y ^^^ (-1))) < cn u := by
  refine cn_sub_lt (j := k) (fun i hi => ?_) hk ?_ h1
  · rw [b_and, Bool.and_eq_true] at hi; exact hi.1
  · rw [b_and, not_b _ (by omega), h2]; exact Bool.and_false _
theorem u_sub {u y r : Int32} (h : Sub u r) : Sub (u &&& y) r := fun i hi => by
  rw [b_and, Bool.and_eq_true] at hi
  exact h i hi.1
