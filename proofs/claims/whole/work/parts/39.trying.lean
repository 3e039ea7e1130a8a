/-! ===== the best diagnosis ===== -/
def Dg (gb : AA) (r p d : Int32) : Prop := Sub d p ∧ EX gb r d
def Bst (gb : AA) (r p b : Int32) : Prop := Dg gb r p b ∧ ∀ d, Dg gb r p d → ¬ Btr r d b
theorem Bst.one {gb : AA} {r p b b' : Int32} (hp : M14 p) (h : Bst gb r p b) (h' : Bst gb r p b') : b = b' := by
  by_cases e : b = b'
  · exact e
  · rcases Btr.total (r := r) (h.1.1.M hp) (h'.1.1.M hp) e with q | q
    · exact absurd q (h'.2 b h.1)
    · exact absurd q (h.2 b' h'.1)
theorem EX.self (gb : AA) (r : Int32) : EX gb r r := fun k hk h => ⟨k, hk, h, Or.inl rfl⟩
theorem M14.le0 {s : Int32} (h : M14 s) : s ≤ 0 ↔ s = 0 := by
  obtain ⟨n, hn, rfl⟩ := h.num
  rw [show (0 : Int32) = nI 0 from rfl, nI_leI (by omega) (by decide), nI_eq (by omega) (by decide)]
  omega
/-- the set of the plausible nodes, as both have it -/
theorem plSub {gu : AA} {r : Int32} (hu : RM gu) (hr : M14 r) : Sub r (f_X0_plausibleOf gu r) := fun k hk => ((plOf hu hr).2.2 k (hr.lt hk)).mpr (Or.inl hk)
theorem best_L4 {gn gu gb ga mn mu : AA} {r : Int32} (h : GI gn gu gb ga) (hs : SG gn gb mn mu) : ∀ (c j n : Nat) (v : Int32), j + c = 14 → c < n →
    p_X5_best_L4 r mn n v (nI j) ∧ ∃ w, f_X5_best_L4 r mn n v (nI j) = (w, nI 14) ∧ ∀ t, (bt w t = true ↔ bt v t = true ∨ (j ≤ t ∧ t < 14 ∧ PL gu r t)) := by
  intro c
  induction c with
  | zero =>
    intro j n v hj hn
    obtain ⟨n, rfl⟩ : ∃ k, n = k + 1 := ⟨n - 1, by omega⟩
    have e : j = 14 := by omega
    subst e
    refine ⟨?_, v, ?_, fun t => ⟨Or.inl, ?_⟩⟩
    · rw [p_X5_best_L4]; exact ⟨fun _ => trivial, fun h => absurd y14 h⟩
    · rw [f_X5_best_L4, if_pos y14]
    · rintro (h | ⟨h1, h2, _⟩)
      · exact h
      · omega
  | succ c ih =>
    intro j n v hj hn
    obtain ⟨n, rfl⟩ : ∃ k, n = k + 1 := ⟨n - 1, by omega⟩
    have hj14 : j < 14 := by omega
    obtain ⟨y, hy⟩ : ∃ y, y = (if f_X5_plausible r mn (nI j) = 0 then (0 : Int32) else (1 <<< (nI j &&& 31))) := ⟨_, rfl⟩
    obtain ⟨q1, q2⟩ := pl5 (r := r) h hs hj14
    have hyb : ∀ t, bt y t = true ↔ t = j ∧ PL gu r j := fun t => by
      rw [hy]
      by_cases c : f_X5_plausible r mn (nI j) = 0
      · rw [if_pos c, b_0]; simp [q2.mp c]
      · rw [if_neg c, one_eq, only_bT hj14]
        have : PL gu r j := Classical.byContradiction fun w => c (q2.mpr w)
        simp [this]
    obtain ⟨a1, w, a2, a3⟩ := ih (j + 1) n (v ||| y) (by omega) (by omega)
    refine ⟨?_, w, ?_, fun t => ?_⟩
    · rw [p_X5_best_L4]
      refine ⟨fun h => absurd h (n14 hj14), fun _ => ⟨q1, ⟨fun _ => trivial, fun _ => trivial⟩, fun z hz => ?_⟩⟩
      rw [← hz, ← hy, nI_1]
      exact a1
    · rw [f_X5_best_L4, if_neg (n14 hj14), ← hy, nI_1]
      exact a2
    · rw [a3 t, b_or, Bool.or_eq_true, hyb t]
      constructor
      · rintro ((h | ⟨h1, h2⟩) | ⟨h1, h2, h3⟩)
        · exact Or.inl h
        · subst h1; exact Or.inr ⟨Nat.le_refl _, hj14, h2⟩
        · exact Or.inr ⟨by omega, h2, h3⟩
      · rintro (h | ⟨h1, h2, h3⟩)
        · exact Or.inl (Or.inl h)
        · rcases Nat.lt_or_ge j t with q | q
          · exact Or.inr ⟨q, h2, h3⟩
          · have e : t = j := by omega
            subst e
            exact Or.inl (Or.inr ⟨rfl, h3⟩)
theorem best_L41 {gn gb mn mu : AA} {r p : Int32} (hs : SG gn gb mn mu) (hr : M14 r) (hp : M14 p) : ∀ (c n : Nat) (b s : Int32), Sub s p → cm p s 14 = c → c < n → Dg gb r p b → (∀ d, Dg gb r p d → c < cm p d 14 → ¬ Btr r d b) →
    p_X5_best_L41 r mu p n b s ∧ ∃ b' y, f_X5_best_L41 r mu p n b s = (b', y) ∧ Dg gb r p b' ∧ ∀ d, Dg gb r p d → d ≠ 0 → ¬ Btr r d b' := by
  intro c
  induction c with
  | zero =>
    intro n b s hss hc hn hb hq
    obtain ⟨n, rfl⟩ : ∃ k, n = k + 1 := ⟨n - 1, by omega⟩
    have e := (cm_zero hp hss).mp hc
    have e0 : s ≤ 0 := (hss.M hp).le0.mpr e
    refine ⟨?_, b, s, ?_, hb, fun d hd hne => hq d hd ?_⟩
    · rw [p_X5_best_L41]; exact ⟨fun _ => trivial, fun h => absurd e0 h⟩
    · rw [f_X5_best_L41, if_pos e0]
    · have := (not_congr (cm_zero hp hd.1)).mpr hne
      omega
  | succ c ih =>
    intro n b s hss hc hn hb hq
    obtain ⟨n, rfl⟩ : ∃ k, n = k + 1 := ⟨n - 1, by omega⟩
    have hne : s ≠ 0 := fun e => by rw [(cm_zero hp hss).mpr e] at hc; omega
    have e0 : ¬ s ≤ 0 := fun e => hne ((hss.M hp).le0.mp e)
    have hcm := cm_prd14 hp hss (prd_sub1 (p := p) (s := s)) hne
    have hS' : Sub ((s - 1) &&& p) p := Sub.andR _ _
    have hcm' : cm p ((s - 1) &&& p) 14 = c := by omega
    have hone : ∀ d, Dg gb r p d → c < cm p d 14 → ¬ c + 1 < cm p d 14 → d = s := fun d hd h1 h2 => cm_one hp hd.1 hss (by omega)
    have keep : ¬ (Dg gb r p s ∧ Btr r s b) → ∀ d, Dg gb r p d → c < cm p d 14 → ¬ Btr r d b := fun hn d hd h1 => by
      by_cases h2 : c + 1 < cm p d 14
      · exact hq d hd h2
      · have e := hone d hd h1 h2
        subst e
        exact fun z => hn ⟨hd, z⟩
    by_cases c1 : s = b
    · obtain ⟨a1, b', y, a2, a3, a4⟩ := ih n b _ hS' hcm' (by omega) hb (keep (fun ⟨_, z⟩ => by rw [c1] at z; exact Btr.irr z))
      refine ⟨?_, b', y, ?_, a3, a4⟩
      · rw [p_X5_best_L41]; exact ⟨fun h => absurd h e0, fun _ => ⟨fun _ => a1, fun h => absurd c1 h⟩⟩
      · rw [f_X5_best_L41, if_neg e0, if_pos c1]; exact a2
    · obtain ⟨q1, q2⟩ := better5 (r := r) (hss.M hp) (hb.1.M hp)
      by_cases c2 : f_X5_isBetter r s b = 0
      · obtain ⟨a1, b', y, a2, a3, a4⟩ := ih n b _ hS' hcm' (by omega) hb (keep (fun ⟨_, z⟩ => (q2.mp c2) z))
        refine ⟨?_, b', y, ?_, a3, a4⟩
        · rw [p_X5_best_L41]; exact ⟨fun h => absurd h e0, fun _ => ⟨fun h => absurd h c1, fun _ => ⟨q1, fun _ => a1, fun h => absurd c2 h⟩⟩⟩
        · rw [f_X5_best_L41, if_neg e0, if_neg c1, if_pos c2]; exact a2
      · obtain ⟨x1, x2⟩ := expl5 (s := s) hs hr
        have hB : Btr r s b := Classical.byContradiction fun w => c2 (q2.mpr w)
        by_cases c3 : f_X5_explained mu s &&& r = r
        · have hD : Dg gb r p s := ⟨hss, x2.mp c3⟩
          obtain ⟨a1, b', y, a2, a3, a4⟩ := ih n s _ hS' hcm' (by omega) hD (fun d hd h1 => by
            by_cases h2 : c + 1 < cm p d 14
            · exact fun z => hq d hd h2 (z.trans hB)
            · have e := hone d hd h1 h2
              subst e
              exact Btr.irr)
          refine ⟨?_, b', y, ?_, a3, a4⟩
          · rw [p_X5_best_L41]; exact ⟨fun h => absurd h e0, fun _ => ⟨fun h => absurd h c1, fun _ => ⟨q1, fun h => absurd h c2, fun _ => ⟨x1, fun _ => a1, fun h => absurd c3 h⟩⟩⟩⟩
          · rw [f_X5_best_L41, if_neg e0, if_neg c1, if_neg c2, if_pos c3]; exact a2
        · obtain ⟨a1, b', y, a2, a3, a4⟩ := ih n b _ hS' hcm' (by omega) hb (keep (fun ⟨z, _⟩ => c3 (x2.mpr z.2)))
          refine ⟨?_, b', y, ?_, a3, a4⟩
          · rw [p_X5_best_L41]; exact ⟨fun h => absurd h e0, fun _ => ⟨fun h => absurd h c1, fun _ => ⟨q1, fun h => absurd h c2, fun _ => ⟨x1, fun h => absurd h c3, fun _ => a1⟩⟩⟩⟩
          · rw [f_X5_best_L41, if_neg e0, if_neg c1, if_neg c2, if_neg c3]; exact a2
theorem best5 {gn gu gb ga mn mu : AA} {r : Int32} (h : GI gn gu gb ga) (hs : SG gn gb mn mu) (hr : M14 r) : p_X5_best r mn mu ∧ Bst gb r (f_X0_plausibleOf gu r) (f_X5_best r mn mu) := by
  obtain ⟨a1, w, a2, a3⟩ := best_L4 (r := r) h hs 14 0 15 0 rfl (by decide)
  rw [nI_0] at a1 a2
  obtain ⟨-, hpM, hpb⟩ := plOf h.2.1 hr
  have hw : w = f_X0_plausibleOf gu r := by
    have hM : M14 w := fun t h1 => by
      cases hb : bt w t
      · rfl
      · rcases (a3 t).mp hb with q | ⟨_, q, _⟩
        · rw [b_0] at q; cases q
        · omega
    refine M14.extT hM hpM fun t ht => ?_
    rw [a3 t, hpb t ht, b_0]
    simp [ht]
  subst hw
  have hrD : Dg gb r (f_X0_plausibleOf gu r) r := ⟨plSub h.2.1 hr, EX.self gb r⟩
  have hfull : ∀ d, Dg gb r (f_X0_plausibleOf gu r) d → cm (f_X0_plausibleOf gu r) d 14 ≤ cm (f_X0_plausibleOf gu r) (f_X0_plausibleOf gu r) 14 := fun d hd => by
    have := cm_lt hd.1 14
    have := cm_full (f_X0_plausibleOf gu r) 14
    omega
  have hcp : cm (f_X0_plausibleOf gu r) (f_X0_plausibleOf gu r) 14 < 16385 := by
    have h1 := cm_full (f_X0_plausibleOf gu r) 14
    have h2 : 2 ^ cb (f_X0_plausibleOf gu r) 14 ≤ 2 ^ 14 := Nat.pow_le_pow_right (by decide) (cb_le _ 14)
    have h3 : 2 ^ 14 = 16384 := by decide
    omega
  obtain ⟨b1, b', y, b2, b3, b4⟩ := best_L41 hs hr hpM _ 16385 r (f_X0_plausibleOf gu r) (fun _ hk => hk) rfl hcp hrD (fun d hd hlt => by have := hfull d hd; omega)
  constructor
  · refine ⟨a1, fun x1 x2 hx => ?_⟩
    rw [a2] at hx
    cases hx
    exact ⟨b1, fun _ _ _ => ⟨⟨fun _ => trivial, fun _ => trivial⟩, fun _ _ => trivial⟩⟩
  · unfold f_X5_best
    rw [a2]
    dsimp only
    rw [b2]
    dsimp only
    by_cases c : r = 0
    · rw [if_pos c]
      subst c
      refine ⟨⟨fun k hk => (by rw [b_0] at hk; cases hk), fun k _ hb => (by rw [b_0] at hb; cases hb)⟩, fun d hd => ?_⟩
      have e : d = 0 := by
        refine M14.ext (hd.1.M hpM) M14.zero fun i hi => ?_
        rw [b_0]
        cases hb : bt d i
        · rfl
        · rcases (hpb i hi).mp (hd.1 i hb) with q | ⟨q1, q2⟩
          · rw [b_0] at q; cases q
          · exfalso
            obtain ⟨t, ht, hbt⟩ := (nz_iff (h.2.1 i hi)).mp q1
            have := (sub_iff (h.2.1 i hi)).mp q2 t ht hbt
            rw [b_0] at this; cases this
      subst e
      exact Btr.irr
    · rw [if_neg c]
      refine ⟨b3, fun d hd => b4 d hd fun e => ?_⟩
      subst e
      obtain ⟨k, hk, hb⟩ := (nz_iff hr).mp c
      obtain ⟨o, _, ho, _⟩ := hd.2 k hk hb
      rw [b_0] at ho; cases ho
/-! ===== by trying ===== -/
theorem xor_b (p s : Int32) (i : Nat) : bt (p ^^^ s) i = (bt p i ^^ bt s i) := b_xor p s i
theorem sub_neg {p s : Int32} (h : Sub s p) : s - p = -(p ^^^ s) := by
  have e : p = s + (p ^^^ s) := by
    refine Int32.toBitVec_inj.mp ?_
    rw [Int32.toBitVec_add]
    have hz : s.toBitVec &&& (p ^^^ s).toBitVec = 0#32 := by
      refine BitVec.eq_of_getLsbD_eq fun i hi => ?_
      show (s.toBitVec &&& (p ^^^ s).toBitVec).getLsbD i = (0#32).getLsbD i
      rw [BitVec.getLsbD_and, BitVec.getLsbD_zero]
      show (bt s i && bt (p ^^^ s) i) = false
      rw [b_xor]
      cases hb : bt s i
      · rfl
      · rw [h i hb]; rfl
    rw [BitVec.add_eq_or_of_and_eq_zero _ _ hz]
    refine BitVec.eq_of_getLsbD_eq fun i hi => ?_
    show bt p i = (s.toBitVec ||| (p ^^^ s).toBitVec).getLsbD i
    rw [BitVec.getLsbD_or]
    show bt p i = (bt s i || bt (p ^^^ s) i)
    rw [b_xor]
    cases hb : bt s i
    · simp
    · rw [h i hb]; rfl
  have key : ∀ S Q : BitVec 32, S - (S + Q) = -Q := fun S Q => by bv_omega
  refine Int32.toBitVec_inj.mp ?_
  rw [Int32.toBitVec_sub, Int32.toBitVec_neg]
  have e2 := congrArg Int32.toBitVec e
  rw [Int32.toBitVec_add] at e2
  rw [← key s.toBitVec (p ^^^ s).toBitVec, ← e2]
theorem two_k {k : Nat} (hk : k ≤ 14) : (1 : Int32) <<< (nI k &&& 31) = nI (2 ^ k) := by
  have h1 : 2 ^ k ≤ 2 ^ 14 := Nat.pow_le_pow_right (by decide) hk
  have h2 : 2 ^ 14 = 16384 := by decide
  have h3 := pk_shlN (n := 1) (nI k &&& 31) k (s_l k (by omega)) (by omega)
  rw [Nat.one_mul] at h3
  exact h3
theorem next_prd {p s : Int32} (h : Sub s p) : Prd p (p ^^^ s) (p ^^^ ((s - p) &&& p)) := fun i hi => by
  rw [b_xor, b_and, sub_neg h, neg_b (by omega)]
  have hq : bt (p ^^^ s) i = true → bt p i = true := fun w => by
    rw [b_xor] at w
    cases hb : bt s i
    · rw [hb, Bool.xor_false] at w; exact w
    · exact h i hb
  by_cases c : ∃ j, j < i ∧ bt (p ^^^ s) j = true
  · rw [decide_eq_true c]
    cases hb : bt p i <;> cases hc : bt (p ^^^ s) i <;> simp [c]
  · rw [decide_eq_false c]
    cases hb : bt p i <;> cases hc : bt (p ^^^ s) i <;> simp [c]
theorem SubX {p s : Int32} (hp : M14 p) (h : Sub s p) : Sub (p ^^^ s) p := fun i hi => by
  rw [b_xor] at hi
  cases hb : bt s i
  · rw [hb, Bool.xor_false] at hi; exact hi
  · exact h i hb
theorem try_L {gn gu gb ga : AA} {r p : Int32} (h : GI gn gu gb ga) (hr : M14 r) (hp : M14 p) : ∀ (c t n : Nat) (b s : Int32), t + c = 2 ^ cn p → c < n → (t < 2 ^ cn p → Sub s p ∧ cm p (p ^^^ s) 14 + t + 1 = 2 ^ cn p) → Dg gb r p b → (∀ d, Dg gb r p d → 2 ^ cn p ≤ cm p (p ^^^ d) 14 + t → ¬ Btr r d b) →
    p_X0_bestByTrying_L20 r p gb n b s (nI t) ∧ ∃ b' x y, f_X0_bestByTrying_L20 r p gb n b s (nI t) = (b', x, y) ∧ Bst gb r p b' := by
  have hk : cn p ≤ 14 := cn_le p
  have hK : 2 ^ cn p ≤ 16384 := by
    have h1 : 2 ^ cn p ≤ 2 ^ 14 := Nat.pow_le_pow_right (by decide) hk
    have h2 : 2 ^ 14 = 16384 := by decide
    omega
  have hend : ∀ t : Nat, t ≤ 16384 → (((1 : Int32) <<< (f_J6_bitCount_0f7a4 p &&& 31)) ≤ nI t ↔ 2 ^ cn p ≤ t) := fun t ht => by
    rw [count6 hp, two_k hk]
    exact nI_leI (by omega) (by omega)
  intro c
  induction c with
  | zero =>
    intro t n b s ht hn _ hb hq
    obtain ⟨n, rfl⟩ : ∃ k, n = k + 1 := ⟨n - 1, by omega⟩
    have e := (hend t (by omega)).mpr (by omega)
    refine ⟨?_, b, s, nI t, ?_, hb, fun d hd => hq d hd (by omega)⟩
    · rw [p_X0_bestByTrying_L20]; exact ⟨fun _ => trivial, fun h => absurd e h⟩
    · rw [f_X0_bestByTrying_L20, if_pos e]
  | succ c ih =>
    intro t n b s ht hn hst hb hq
    obtain ⟨n, rfl⟩ : ∃ k, n = k + 1 := ⟨n - 1, by omega⟩
    obtain ⟨hss, hcm⟩ := hst (by omega)
    have e : ¬ ((1 : Int32) <<< (f_J6_bitCount_0f7a4 p &&& 31)) ≤ nI t := fun w => by have := (hend t (by omega)).mp w; omega
    have hsM := hss.M hp
    have hqs := SubX hp hss
    have hst' : t + 1 < 2 ^ cn p → Sub ((s - p) &&& p) p ∧ cm p (p ^^^ ((s - p) &&& p)) 14 + (t + 1) + 1 = 2 ^ cn p := fun hlt => by
      refine ⟨Sub.andR _ _, ?_⟩
      have hne : p ^^^ s ≠ 0 := fun z => by
        have := (cm_zero hp hqs).mpr z
        omega
      have := cm_prd14 hp hqs (next_prd hss) hne
      omega
    have hone : ∀ d, Dg gb r p d → 2 ^ cn p ≤ cm p (p ^^^ d) 14 + (t + 1) → ¬ 2 ^ cn p ≤ cm p (p ^^^ d) 14 + t → d = s := fun d hd h1 h2 => by
      have e1 := cm_one hp (SubX hp hd.1) hqs (by omega)
      refine M14.ext (hd.1.M hp) hsM fun i hi => ?_
      have this : bt (p ^^^ d) i = bt (p ^^^ s) i := congrArg (fun z => bt z i) e1
      rw [b_xor, b_xor] at this
      revert this
      cases bt p i <;> cases bt d i <;> cases bt s i <;> simp
    have keep : ¬ (Dg gb r p s ∧ Btr r s b) → ∀ d, Dg gb r p d → 2 ^ cn p ≤ cm p (p ^^^ d) 14 + (t + 1) → ¬ Btr r d b := fun hn d hd h1 => by
      by_cases h2 : 2 ^ cn p ≤ cm p (p ^^^ d) 14 + t
      · exact hq d hd h2
      · have e := hone d hd h1 h2
        subst e
        exact fun z => hn ⟨hd, z⟩
    obtain ⟨q1, q2⟩ := better4 (r := r) hsM (hb.1.M hp)
    obtain ⟨x1, x2⟩ := exAll h (r := r) hsM
    by_cases c2 : f_X0_isBetter r s b = 0
    · obtain ⟨a1, b', x, y, a2, a3⟩ := ih (t + 1) n b _ (by omega) (by omega) hst' hb (keep (fun ⟨_, z⟩ => (q2.mp c2) z))
      refine ⟨?_, b', x, y, ?_, a3⟩
      · rw [p_X0_bestByTrying_L20]; exact ⟨fun h => absurd h e, fun _ => ⟨q1, fun _ => by rw [nI_1]; exact a1, fun h => absurd c2 h⟩⟩
      · rw [f_X0_bestByTrying_L20, if_neg e, if_pos c2, nI_1]; exact a2
    · have hB : Btr r s b := Classical.byContradiction fun w => c2 (q2.mpr w)
      by_cases c3 : f_X0_explainsAll r gb s = 0
      · obtain ⟨a1, b', x, y, a2, a3⟩ := ih (t + 1) n b _ (by omega) (by omega) hst' hb (keep (fun ⟨z, _⟩ => (x2.mp c3) z.2))
        refine ⟨?_, b', x, y, ?_, a3⟩
        · rw [p_X0_bestByTrying_L20]; exact ⟨fun h => absurd h e, fun _ => ⟨q1, fun h => absurd h c2, fun _ => ⟨x1, fun _ => by rw [nI_1]; exact a1, fun h => absurd c3 h⟩⟩⟩
        · rw [f_X0_bestByTrying_L20, if_neg e, if_neg c2, if_pos c3, nI_1]; exact a2
      · have hD : Dg gb r p s := ⟨hss, Classical.byContradiction fun w => c3 (x2.mpr w)⟩
        obtain ⟨a1, b', x, y, a2, a3⟩ := ih (t + 1) n s _ (by omega) (by omega) hst' hD (fun d hd h1 => by
          by_cases h2 : 2 ^ cn p ≤ cm p (p ^^^ d) 14 + t
          · exact fun z => hq d hd h2 (z.trans hB)
          · have e := hone d hd h1 h2
            subst e
            exact Btr.irr)
        refine ⟨?_, b', x, y, ?_, a3⟩
        · rw [p_X0_bestByTrying_L20]; exact ⟨fun h => absurd h e, fun _ => ⟨q1, fun h => absurd h c2, fun _ => ⟨x1, fun h => absurd h c3, fun _ => by rw [nI_1]; exact a1⟩⟩⟩
        · rw [f_X0_bestByTrying_L20, if_neg e, if_neg c2, if_neg c3, nI_1]; exact a2
theorem try_spec {gn gu gb ga : AA} {r : Int32} (h : GI gn gu gb ga) (hr : M14 r) : p_X0_bestByTrying r (f_X0_plausibleOf gu r) gb ∧ Bst gb r (f_X0_plausibleOf gu r) (f_X0_bestByTrying r (f_X0_plausibleOf gu r) gb) := by
  obtain ⟨-, hpM, -⟩ := plOf h.2.1 hr
  have hK : 2 ^ cn (f_X0_plausibleOf gu r) ≤ 16384 := by
    have h1 : 2 ^ cn (f_X0_plausibleOf gu r) ≤ 2 ^ 14 := Nat.pow_le_pow_right (by decide) (cn_le _)
    have h2 : 2 ^ 14 = 16384 := by decide
    omega
  have hx0 : f_X0_plausibleOf gu r ^^^ 0 = f_X0_plausibleOf gu r := b_ext fun i _ => by rw [b_xor, b_0, Bool.xor_false]
  obtain ⟨a1, b', x, y, a2, a3⟩ := try_L h hr hpM (2 ^ cn (f_X0_plausibleOf gu r)) 0 16385 r 0 (Nat.zero_add _) (by omega) (fun _ => ⟨fun k hk => (by rw [b_0] at hk; cases hk), by rw [hx0]; exact cm_full _ 14⟩) ⟨plSub h.2.1 hr, EX.self gb r⟩ (fun d hd hle => by
    have := cm_lt (SubX hpM hd.1) 14
    have h4 : 2 ^ cb (f_X0_plausibleOf gu r) 14 = 2 ^ cn (f_X0_plausibleOf gu r) := rfl
    omega)
  rw [nI_0] at a1 a2
  refine ⟨⟨a1, fun _ _ _ _ => trivial⟩, ?_⟩
  unfold f_X0_bestByTrying
  rw [a2]
  exact a3
