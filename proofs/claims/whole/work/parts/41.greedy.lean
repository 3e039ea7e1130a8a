/-! ===== the greedy diagnosis ===== -/
/-- how many of the open nodes a plausible node explains -/
def Gk (p : Int32) (ga : AA) (u : Int32) (k : Nat) : Nat := if bt p k then cn (f_X1_explainedBy ga (nI k) &&& u) else 0
/-- where both loops stand -/
def GR (p : Int32) (ga : AA) (u : Int32) (a x : Nat) (next found : Int32) : Prop := x < 14 ∧ next = nI x ∧ a ≤ 14 ∧ (a = 0 → x = 0 ∧ found = -1) ∧ (a ≠ 0 → found = nI x ∧ Gk p ga u x = a)
theorem Gk_le (p : Int32) (ga : AA) (u : Int32) (k : Nat) : Gk p ga u k ≤ 14 := by
  unfold Gk
  split
  · exact cn_le _
  · omega
theorem gx_val {gn gu gb ga : AA} (h : GI gn gu gb ga) {p u : Int32} {j : Nat} (hj : j < 14) : (if f_X4_has p (nI j) = 0 then (0 : Int32) else f_J6_bitCount_0f7a4 (f_X1_explainedBy ga (nI j) &&& u)) = nI (Gk p ga u j) := by
  have hh := has4_0 p (n := j) (by omega)
  unfold Gk
  cases hb : bt p j
  · rw [if_pos (hh.mpr hb)]; rfl
  · rw [if_neg (fun c => by rw [hh.mp c] at hb; cases hb), count6 ((explainedBy_M h hj).and u)]; rfl
theorem gm_val {gn gu gb ga mn mu : AA} {r : Int32} (h : GI gn gu gb ga) (hs : SG gn gb mn mu) (hr : M14 r) {u : Int32} {j : Nat} (hj : j < 14) : (if f_X5_plausible r mn (nI j) = 0 then (0 : Int32) else f_X5_count (f_X5_explains mu (nI j) &&& u)) = nI (Gk (f_X0_plausibleOf gu r) ga u j) := by
  have q := (pl5 (r := r) h hs hj).2
  have q2 := (plOf h.2.1 hr).2.2 j hj
  unfold Gk
  cases hb : bt (f_X0_plausibleOf gu r) j
  · rw [if_pos (q.mpr (fun c => by rw [q2.mpr c] at hb; cases hb))]; rfl
  · rw [if_neg (fun c => q.mp c (q2.mp hb)), (ex5 h hs hj).2, (count5 _).2]; rfl
theorem gI {a b : Nat} (ha : a ≤ 14) (hb : b ≤ 14) : (nI a < nI b ↔ a < b) ∧ (nI a = nI b ↔ a = b) ∧ (nI a ≤ 0 ↔ a = 0) := ⟨nI_ltI (by omega) (by omega), nI_eq (by omega) (by omega), by rw [show (0 : Int32) = nI 0 from rfl, nI_leI (by omega) (by decide)]; omega⟩
theorem greedy_L {gn gu gb ga mn mu : AA} {r u : Int32} (h : GI gn gu gb ga) (hs : SG gn gb mn mu) (hr : M14 r) : ∀ (c j n : Nat) (a x : Nat) (next found : Int32), j + c = 14 → c < n → GR (f_X0_plausibleOf gu r) ga u a x next found → (∀ k, k < j → Gk (f_X0_plausibleOf gu r) ga u k ≤ a) →
    p_X0_greedyNext_L7 r (f_X0_plausibleOf gu r) ga u n next (nI a) (nI j) ∧ p_X5_joins_L7 r mn mu u n found (nI a) (nI j) ∧
    ∃ a' x' next' found', f_X0_greedyNext_L7 r (f_X0_plausibleOf gu r) ga u n next (nI a) (nI j) = (next', nI a', nI 14) ∧ f_X5_joins_L7 r mn mu u n found (nI a) (nI j) = (found', nI a', nI 14) ∧ GR (f_X0_plausibleOf gu r) ga u a' x' next' found' ∧ ∀ k, k < 14 → Gk (f_X0_plausibleOf gu r) ga u k ≤ a' := by
  intro c
  induction c with
  | zero =>
    intro j n a x next found hj hn hG hk
    obtain ⟨n, rfl⟩ : ∃ k, n = k + 1 := ⟨n - 1, by omega⟩
    have e : j = 14 := by omega
    subst e
    refine ⟨?_, ?_, a, x, next, found, ?_, ?_, hG, hk⟩
    · rw [p_X0_greedyNext_L7]; exact ⟨fun _ => trivial, fun h => absurd y14 h⟩
    · rw [p_X5_joins_L7]; exact ⟨fun _ => trivial, fun h => absurd y14 h⟩
    · rw [f_X0_greedyNext_L7, if_pos y14]
    · rw [f_X5_joins_L7, if_pos y14]
  | succ c ih =>
    intro j n a x next found hj hn hG hk
    obtain ⟨n, rfl⟩ : ∃ k, n = k + 1 := ⟨n - 1, by omega⟩
    have hj14 : j < 14 := by omega
    obtain ⟨hx, rfl, ha, h0, h1⟩ := id hG
    have vx := gx_val h (p := f_X0_plausibleOf gu r) (u := u) hj14
    have vm := gm_val h hs hr (u := u) hj14
    obtain ⟨b, hb⟩ : ∃ b, b = Gk (f_X0_plausibleOf gu r) ga u j := ⟨_, rfl⟩
    have hb14 : b ≤ 14 := by rw [hb]; exact Gk_le _ _ _ _
    rw [← hb] at vx vm
    obtain ⟨i1, i2, i3⟩ := gI ha hb14
    obtain ⟨-, i5, i6⟩ := gI hb14 ha
    have pX : ∀ P : Prop, (∀ z : Int32, z = nI b → P) → P := fun P q => q _ rfl
    -- the model's and the class's ways through one round
    have take : a < b ∨ (b = a ∧ b ≠ 0 ∧ bt r j = true ∧ bt r x = false) → GR (f_X0_plausibleOf gu r) ga u b j (nI j) (nI j) ∧ ∀ k, k < j + 1 → Gk (f_X0_plausibleOf gu r) ga u k ≤ b := fun q => by
      refine ⟨⟨hj14, rfl, hb14, fun e => by omega, fun _ => ⟨rfl, hb.symm⟩⟩, fun k hk2 => ?_⟩
      rcases Nat.lt_or_ge k j with w | w
      · have := hk k w; omega
      · rw [show k = j by omega, ← hb]; exact Nat.le_refl _
    have leave : b ≤ a → ∀ k, k < j + 1 → Gk (f_X0_plausibleOf gu r) ga u k ≤ a := fun q k hk2 => by
      rcases Nat.lt_or_ge k j with w | w
      · exact hk k w
      · rw [show k = j by omega, ← hb]; exact q
    have hr4 := has4_0 r (n := j) (by omega)
    have hr5 := has5_0 r (n := j) (by omega)
    have hx4 := has4_0 r (n := x) (by omega)
    have hx5 := has5_0 r (n := x) (by omega)
    obtain ⟨y, hy⟩ : ∃ y : Int32, y = (if nI b = nI a then (if f_X4_has r (nI j) = 0 then (0 : Int32) else (if f_X4_has r (nI x) = 0 then (1 : Int32) else (0 : Int32))) else (0 : Int32)) := ⟨_, rfl⟩
    have hy0 : y = 0 ↔ ¬ (b = a ∧ bt r j = true ∧ bt r x = false) := by
      rw [hy]
      by_cases e : b = a
      · rw [if_pos (i5.mpr e)]
        cases hbj : bt r j
        · rw [if_pos (hr4.mpr hbj)]; simp
        · rw [if_neg (fun c => by rw [hr4.mp c] at hbj; cases hbj)]
          cases hbx : bt r x
          · rw [if_pos (hx4.mpr hbx)]; simp [e]
          · rw [if_neg (fun c => by rw [hx4.mp c] at hbx; cases hbx)]; simp
      · rw [if_neg (fun c => e (i5.mp c))]; simp [e]
    obtain ⟨z, hz⟩ : ∃ z : Int32, z = (if nI a < nI b then (1 : Int32) else (if nI b = nI a then (if nI b ≤ 0 then (0 : Int32) else (if f_X5_has r (nI j) = 0 then (0 : Int32) else (if f_X5_has r found = 0 then (1 : Int32) else (0 : Int32)))) else (0 : Int32))) := ⟨_, rfl⟩
    have hz0 : z = 0 ↔ ¬ (a < b ∨ (b = a ∧ b ≠ 0 ∧ bt r j = true ∧ bt r x = false)) := by
      rw [hz]
      by_cases e1 : a < b
      · rw [if_pos (i1.mpr e1)]; simp [e1]
      · rw [if_neg (fun c => e1 (i1.mp c))]
        by_cases e : b = a
        · rw [if_pos (i5.mpr e)]
          by_cases e0 : b = 0
          · rw [if_pos (i6.mpr e0)]; simp [e0, e1]
          · rw [if_neg (fun c => e0 (i6.mp c)), (h1 (by omega)).1]
            cases hbj : bt r j
            · rw [if_pos (hr5.mpr hbj)]; simp [e1]
            · rw [if_neg (fun c => by rw [hr5.mp c] at hbj; cases hbj)]
              cases hbx : bt r x
              · rw [if_pos (hx5.mpr hbx)]; simp [e, e0]; omega
              · rw [if_neg (fun c => by rw [hx5.mp c] at hbx; cases hbx)]; simp [e1]
        · rw [if_neg (fun c => e (i5.mp c))]; simp [e, e1]
    have pB : p_X1_explainedBy (nI j) := ⟨in14 hj14, trivial⟩
    by_cases w : a < b ∨ (b = a ∧ b ≠ 0 ∧ bt r j = true ∧ bt r x = false)
    · obtain ⟨t1, t2⟩ := take w
      obtain ⟨p1, p2, a', x', next', found', e1, e2, e3, e4⟩ := ih (j + 1) n b j (nI j) (nI j) (by omega) (by omega) t1 t2
      have z1 : ¬ z = 0 := fun c => (hz0.mp c) w
      refine ⟨?_, ?_, a', x', next', found', ?_, ?_, e3, e4⟩
      · rw [p_X0_greedyNext_L7]
        refine ⟨fun h => absurd h (n14 hj14), fun _ => ⟨⟨fun _ => trivial, fun _ => ⟨pB, trivial⟩⟩, fun v hv => ?_⟩⟩
        rw [vx] at hv
        subst hv
        refine ⟨⟨fun _ => ⟨fun _ => trivial, fun _ => ⟨fun _ => trivial, fun _ => trivial⟩⟩, fun _ => trivial⟩, fun v hv => ?_⟩
        rw [← hy] at hv
        subst hv
        rw [nI_1]
        rcases w with w | ⟨w1, w2, w3, w4⟩
        · exact ⟨fun _ => p1, fun c => absurd (i1.mpr w) c⟩
        · exact ⟨fun _ => p1, fun _ => ⟨fun c => absurd (i6.mp c) w2, fun _ => ⟨fun c => absurd ⟨w1, w3, w4⟩ (hy0.mp c), fun _ => p1⟩⟩⟩
      · rw [p_X5_joins_L7]
        refine ⟨fun h => absurd h (n14 hj14), fun _ => ⟨(pl5 (r := r) h hs hj14).1, ⟨fun _ => trivial, fun _ => ⟨(ex5 h hs hj14).1, (count5 _).1, trivial⟩⟩, fun v hv => ?_⟩⟩
        rw [vm] at hv
        subst hv
        refine ⟨⟨fun _ => trivial, fun _ => ⟨fun _ => ⟨fun _ => trivial, fun _ => ⟨fun _ => trivial, fun _ => ⟨fun _ => trivial, fun _ => trivial⟩⟩⟩, fun _ => trivial⟩⟩, fun v hv => ?_⟩
        rw [← hz] at hv
        subst hv
        refine ⟨⟨fun _ => trivial, fun _ => trivial⟩, fun v hv => ?_⟩
        rw [if_neg z1] at hv
        subst hv
        refine ⟨⟨fun _ => trivial, fun _ => trivial⟩, fun v hv => ?_⟩
        rw [if_neg z1] at hv
        subst hv
        rw [nI_1]
        exact p2
      · rw [f_X0_greedyNext_L7, if_neg (n14 hj14)]
        dsimp only
        rw [vx, ← hy, nI_1]
        rcases w with w | ⟨w1, w2, w3, w4⟩
        · rw [if_pos (i1.mpr w)]; exact e1
        · rw [if_neg (fun c => by have := i1.mp c; omega), if_neg (fun c => w2 (i6.mp c)), if_neg (fun c => (hy0.mp c) ⟨w1, w3, w4⟩)]; exact e1
      · rw [f_X5_joins_L7, if_neg (n14 hj14)]
        dsimp only
        rw [vm, ← hz, if_neg z1, if_neg z1, nI_1]
        exact e2
    · have hba : b ≤ a := by omega
      obtain ⟨p1, p2, a', x', next', found', e1, e2, e3, e4⟩ := ih (j + 1) n a x (nI x) found (by omega) (by omega) hG (leave hba)
      have z1 : z = 0 := hz0.mpr w
      have w1 : ¬ nI a < nI b := fun c => w (Or.inl (i1.mp c))
      have w2 : ¬ nI b ≤ 0 → y = 0 := fun c => hy0.mpr fun ⟨q1, q2, q3⟩ => w (Or.inr ⟨q1, fun q => c (i6.mpr q), q2, q3⟩)
      refine ⟨?_, ?_, a', x', next', found', ?_, ?_, e3, e4⟩
      · rw [p_X0_greedyNext_L7]
        refine ⟨fun h => absurd h (n14 hj14), fun _ => ⟨⟨fun _ => trivial, fun _ => ⟨pB, trivial⟩⟩, fun v hv => ?_⟩⟩
        rw [vx] at hv
        subst hv
        refine ⟨⟨fun _ => ⟨fun _ => trivial, fun _ => ⟨fun _ => trivial, fun _ => trivial⟩⟩, fun _ => trivial⟩, fun v hv => ?_⟩
        rw [← hy] at hv
        subst hv
        rw [nI_1]
        exact ⟨fun c => absurd c w1, fun _ => ⟨fun _ => p1, fun c => ⟨fun _ => p1, fun c2 => absurd (w2 c) c2⟩⟩⟩
      · rw [p_X5_joins_L7]
        refine ⟨fun h => absurd h (n14 hj14), fun _ => ⟨(pl5 (r := r) h hs hj14).1, ⟨fun _ => trivial, fun _ => ⟨(ex5 h hs hj14).1, (count5 _).1, trivial⟩⟩, fun v hv => ?_⟩⟩
        rw [vm] at hv
        subst hv
        refine ⟨⟨fun _ => trivial, fun _ => ⟨fun _ => ⟨fun _ => trivial, fun _ => ⟨fun _ => trivial, fun _ => ⟨fun _ => trivial, fun _ => trivial⟩⟩⟩, fun _ => trivial⟩⟩, fun v hv => ?_⟩
        rw [← hz] at hv
        subst hv
        refine ⟨⟨fun _ => trivial, fun _ => trivial⟩, fun v hv => ?_⟩
        rw [if_pos z1] at hv
        subst hv
        refine ⟨⟨fun _ => trivial, fun _ => trivial⟩, fun v hv => ?_⟩
        rw [if_pos z1] at hv
        subst hv
        rw [nI_1]
        exact p2
      · rw [f_X0_greedyNext_L7, if_neg (n14 hj14)]
        dsimp only
        rw [vx, ← hy, nI_1, if_neg w1]
        by_cases c : nI b ≤ 0
        · rw [if_pos c]; exact e1
        · rw [if_neg c, if_pos (w2 c)]; exact e1
      · rw [f_X5_joins_L7, if_neg (n14 hj14)]
        dsimp only
        rw [vm, ← hz, if_pos z1, if_pos z1, nI_1]
        exact e2
/-- the next node of the greedy diagnosis, told by both -/
theorem greedy_same {gn gu gb ga mn mu : AA} {r u : Int32} (h : GI gn gu gb ga) (hs : SG gn gb mn mu) (hr : M14 r) (hur : Sub u r) (hu0 : u ≠ 0) : p_X0_greedyNext r (f_X0_plausibleOf gu r) ga u ∧ p_X5_joins r mn mu u ∧
    ∃ g, g < 14 ∧ f_X0_greedyNext r (f_X0_plausibleOf gu r) ga u = nI g ∧ f_X5_joins r mn mu u = nI g ∧ ∃ k, k < 14 ∧ bt u k = true ∧ bt (f_X1_explainedBy ga (nI g)) k = true := by
  obtain ⟨p1, p2, a, x, next, found, e1, e2, ⟨hx, hnx, ha, h0, h1⟩, e4⟩ := greedy_L (u := u) h hs hr 14 0 15 0 0 0 (-1) rfl (by decide) ⟨by decide, rfl, by decide, fun _ => ⟨rfl, rfl⟩, fun q => absurd rfl q⟩ (fun k hk => absurd hk (Nat.not_lt_zero _))
  rw [nI_0] at p1 p2 e1 e2
  refine ⟨⟨p1, fun _ _ _ _ => trivial⟩, ⟨p2, fun _ _ _ _ => trivial⟩, x, hx, ?_, ?_, ?_⟩
  · unfold f_X0_greedyNext; rw [e1]; exact hnx
  · unfold f_X5_joins
    rw [e2]
    refine (h1 fun q => ?_).1
    obtain ⟨k, hk, hb⟩ := (nz_iff (hur.M hr)).mp hu0
    have h5 := e4 k hk
    have hpk : bt (f_X0_plausibleOf gu r) k = true := plSub h.2.1 hr k (hur k hb)
    unfold Gk at h5
    rw [if_pos hpk] at h5
    have h6 : 0 < cn (f_X1_explainedBy ga (nI k) &&& u) := by
      have h7 : cb (f_X1_explainedBy ga (nI k) &&& u) 14 ≠ 0 := fun c => by
        have := cb_zero.mp c k hk
        rw [b_and, hb, (explainedBy_b hk).mpr (Or.inl rfl)] at this
        cases this
      exact Nat.pos_of_ne_zero h7
    omega
  · by_cases q : a = 0
    · exfalso
      obtain ⟨k, hk, hb⟩ := (nz_iff (hur.M hr)).mp hu0
      have h5 := e4 k hk
      have hpk : bt (f_X0_plausibleOf gu r) k = true := plSub h.2.1 hr k (hur k hb)
      unfold Gk at h5
      rw [if_pos hpk] at h5
      have h7 : cb (f_X1_explainedBy ga (nI k) &&& u) 14 ≠ 0 := fun c => by
        have := cb_zero.mp c k hk
        rw [b_and, hb, (explainedBy_b hk).mpr (Or.inl rfl)] at this
        cases this
      exact h7 (by unfold cn at h5; omega)
    · have h5 := (h1 q).2
      unfold Gk at h5
      split at h5
      · have h7 : cb (f_X1_explainedBy ga (nI x) &&& u) 14 ≠ 0 := fun c => q (by rw [← h5]; exact c)
        have h8 : ∃ k, k < 14 ∧ bt (f_X1_explainedBy ga (nI x) &&& u) k = true := Classical.byContradiction fun w => h7 (cb_zero.mpr fun i hi => by
          cases hb : bt (f_X1_explainedBy ga (nI x) &&& u) i
          · rfl
          · exact absurd ⟨i, hi, hb⟩ w)
        obtain ⟨k, hk, hb⟩ := h8
        rw [b_and, Bool.and_eq_true] at hb
        exact ⟨k, hk, hb.2, hb.1⟩
      · exact absurd h5.symm q
