/-! ===== the best diagnosis ===== -/
def Dg (gb : AA) (r p d : Int32) : Prop := Sub d p ∧ EX gb r d
def Bst (gb : AA) (r p b : Int32) : Prop := Dg gb r p b ∧ ∀ d, Dg gb r p d → ¬ Btr r d b
theorem Bst.one {gb : AA} {r p b b' : Int32} (hp : M14 p) (h : Bst gb r p b) (h' : Bst gb r p b') : b = b' := by
  by_cases e : b = b'
  · exact e
  · rcases Btr.total (r := r) (h.1.1.M hp) (h'.1.1.M hp) e with q | q
    · exact absurd q (h'.2 b h.1)
    · exact absurd q (h.2 b' h'.1)
theorem EX.self (gb : AA) (r : Int32) : EX gb r r := fun k hk h => ⟨k, hk, h, Or.inl rfl⟩
theorem M14.le0 {s : Int32} (h : M14 s) : s ≤ 0 ↔ s = 0 := by
  obtain ⟨n, hn, rfl⟩ := h.num
  rw [show (0 : Int32) = nI 0 from rfl, nI_leI (by omega) (by decide), nI_eq (by omega) (by decide)]
  omega
/-- the set of the plausible nodes, as both have it -/
theorem plSub {gu : AA} {r : Int32} (hu : RM gu) (hr : M14 r) : Sub r (f_X0_plausibleOf gu r) := fun k hk => ((plOf hu hr).2.2 k (hr.lt hk)).mpr (Or.inl hk)
/-! ===== by trying ===== -/
theorem xor_b (p s : Int32) (i : Nat) : bt (p ^^^ s) i = (bt p i ^^ bt s i) := b_xor p s i
theorem sub_neg {p s : Int32} (h : Sub s p) : s - p = -(p ^^^ s) := by
  have e : p = s + (p ^^^ s) := by
    refine Int32.toBitVec_inj.mp ?_
    rw [Int32.toBitVec_add]
    have hz : s.toBitVec &&& (p ^^^ s).toBitVec = 0#32 := by
      refine BitVec.eq_of_getLsbD_eq fun i hi => ?_
      show (s.toBitVec &&& (p ^^^ s).toBitVec).getLsbD i = (0#32).getLsbD i
      rw [BitVec.getLsbD_and, BitVec.getLsbD_zero]
      show (bt s i && bt (p ^^^ s) i) = false
      rw [b_xor]
      cases hb : bt s i
      · rfl
      · rw [h i hb]; rfl
    rw [BitVec.add_eq_or_of_and_eq_zero _ _ hz]
    refine BitVec.eq_of_getLsbD_eq fun i hi => ?_
    show bt p i = (s.toBitVec ||| (p ^^^ s).toBitVec).getLsbD i
    rw [BitVec.getLsbD_or]
    show bt p i = (bt s i || bt (p ^^^ s) i)
    rw [b_xor]
    cases hb : bt s i
    · simp
    · rw [h i hb]; rfl
  have key : ∀ S Q : BitVec 32, S - (S + Q) = -Q := fun S Q => by bv_omega
  refine Int32.toBitVec_inj.mp ?_
  rw [Int32.toBitVec_sub, Int32.toBitVec_neg]
  have e2 := congrArg Int32.toBitVec e
  rw [Int32.toBitVec_add] at e2
  rw [← key s.toBitVec (p ^^^ s).toBitVec, ← e2]
theorem two_k {k : Nat} (hk : k ≤ 14) : (1 : Int32) <<< (nI k &&& 31) = nI (2 ^ k) := by
  have h1 : 2 ^ k ≤ 2 ^ 14 := Nat.pow_le_pow_right (by decide) hk
  have h2 : 2 ^ 14 = 16384 := by decide
  have h3 := pk_shlN (n := 1) (nI k &&& 31) k (s_l k (by omega)) (by omega)
  rw [Nat.one_mul] at h3
  exact h3
theorem next_prd {p s : Int32} (h : Sub s p) : Prd p (p ^^^ s) (p ^^^ ((s - p) &&& p)) := fun i hi => by
  rw [b_xor, b_and, sub_neg h, neg_b (by omega)]
  have hq : bt (p ^^^ s) i = true → bt p i = true := fun w => by
    rw [b_xor] at w
    cases hb : bt s i
    · rw [hb, Bool.xor_false] at w; exact w
    · exact h i hb
  by_cases c : ∃ j, j < i ∧ bt (p ^^^ s) j = true
  · rw [decide_eq_true c]
    cases hb : bt p i <;> cases hc : bt (p ^^^ s) i <;> simp [c]
  · rw [decide_eq_false c]
    cases hb : bt p i <;> cases hc : bt (p ^^^ s) i <;> simp [c]
theorem SubX {p s : Int32} (hp : M14 p) (h : Sub s p) : Sub (p ^^^ s) p := fun i hi => by
  rw [b_xor] at hi
  cases hb : bt s i
  · rw [hb, Bool.xor_false] at hi; exact hi
  · exact h i hb
theorem try_L {gn gu gb ga : AA} {r p : Int32} (h : GI gn gu gb ga) (hr : M14 r) (hp : M14 p) : ∀ (c t n : Nat) (b s : Int32), t + c = 2 ^ cn p → c < n → (t < 2 ^ cn p → Sub s p ∧ cm p (p ^^^ s) 14 + t + 1 = 2 ^ cn p) → Dg gb r p b → (∀ d, Dg gb r p d → 2 ^ cn p ≤ cm p (p ^^^ d) 14 + t → ¬ Btr r d b) →
    p_X0_bestByTrying_L20 r p gb n b s (nI t) ∧ ∃ b' x y, f_X0_bestByTrying_L20 r p gb n b s (nI t) = (b', x, y) ∧ Bst gb r p b' := by
  have hk : cn p ≤ 14 := cn_le p
  have hK : 2 ^ cn p ≤ 16384 := by
    have h1 : 2 ^ cn p ≤ 2 ^ 14 := Nat.pow_le_pow_right (by decide) hk
    have h2 : 2 ^ 14 = 16384 := by decide
    omega
  have hend : ∀ t : Nat, t ≤ 16384 → (((1 : Int32) <<< (f_J6_bitCount_0f7a4 p &&& 31)) ≤ nI t ↔ 2 ^ cn p ≤ t) := fun t ht => by
    rw [count6 hp, two_k hk]
    exact nI_leI (by omega) (by omega)
  intro c
  induction c with
  | zero =>
    intro t n b s ht hn _ hb hq
    obtain ⟨n, rfl⟩ : ∃ k, n = k + 1 := ⟨n - 1, by omega⟩
    have e := (hend t (by omega)).mpr (by omega)
    refine ⟨?_, b, s, nI t, ?_, hb, fun d hd => hq d hd (by omega)⟩
    · rw [p_X0_bestByTrying_L20]; exact ⟨fun _ => trivial, fun h => absurd e h⟩
    · rw [f_X0_bestByTrying_L20, if_pos e]
  | succ c ih =>
    intro t n b s ht hn hst hb hq
    obtain ⟨n, rfl⟩ : ∃ k, n = k + 1 := ⟨n - 1, by omega⟩
    obtain ⟨hss, hcm⟩ := hst (by omega)
    have e : ¬ ((1 : Int32) <<< (f_J6_bitCount_0f7a4 p &&& 31)) ≤ nI t := fun w => by have := (hend t (by omega)).mp w; omega
    have hsM := hss.M hp
    have hqs := SubX hp hss
    have hst' : t + 1 < 2 ^ cn p → Sub ((s - p) &&& p) p ∧ cm p (p ^^^ ((s - p) &&& p)) 14 + (t + 1) + 1 = 2 ^ cn p := fun hlt => by
      refine ⟨Sub.andR _ _, ?_⟩
      have hne : p ^^^ s ≠ 0 := fun z => by
        have := (cm_zero hp hqs).mpr z
        omega
      have := cm_prd14 hp hqs (next_prd hss) hne
      omega
    have hone : ∀ d, Dg gb r p d → 2 ^ cn p ≤ cm p (p ^^^ d) 14 + (t + 1) → ¬ 2 ^ cn p ≤ cm p (p ^^^ d) 14 + t → d = s := fun d hd h1 h2 => by
      have e1 := cm_one hp (SubX hp hd.1) hqs (by omega)
      refine M14.ext (hd.1.M hp) hsM fun i hi => ?_
      have this : bt (p ^^^ d) i = bt (p ^^^ s) i := congrArg (fun z => bt z i) e1
      rw [b_xor, b_xor] at this
      revert this
      cases bt p i <;> cases bt d i <;> cases bt s i <;> simp
    have keep : ¬ (Dg gb r p s ∧ Btr r s b) → ∀ d, Dg gb r p d → 2 ^ cn p ≤ cm p (p ^^^ d) 14 + (t + 1) → ¬ Btr r d b := fun hn d hd h1 => by
      by_cases h2 : 2 ^ cn p ≤ cm p (p ^^^ d) 14 + t
      · exact hq d hd h2
      · have e := hone d hd h1 h2
        subst e
        exact fun z => hn ⟨hd, z⟩
    obtain ⟨q1, q2⟩ := better4 (r := r) hsM (hb.1.M hp)
    obtain ⟨x1, x2⟩ := exAll h (r := r) hsM
    by_cases c2 : f_X0_isBetter r s b = 0
    · obtain ⟨a1, b', x, y, a2, a3⟩ := ih (t + 1) n b _ (by omega) (by omega) hst' hb (keep (fun ⟨_, z⟩ => (q2.mp c2) z))
      refine ⟨?_, b', x, y, ?_, a3⟩
      · rw [p_X0_bestByTrying_L20]; exact ⟨fun h => absurd h e, fun _ => ⟨q1, fun _ => by rw [nI_1]; exact a1, fun h => absurd c2 h⟩⟩
      · rw [f_X0_bestByTrying_L20, if_neg e, if_pos c2, nI_1]; exact a2
    · have hB : Btr r s b := Classical.byContradiction fun w => c2 (q2.mpr w)
      by_cases c3 : f_X0_explainsAll r gb s = 0
      · obtain ⟨a1, b', x, y, a2, a3⟩ := ih (t + 1) n b _ (by omega) (by omega) hst' hb (keep (fun ⟨z, _⟩ => (x2.mp c3) z.2))
        refine ⟨?_, b', x, y, ?_, a3⟩
        · rw [p_X0_bestByTrying_L20]; exact ⟨fun h => absurd h e, fun _ => ⟨q1, fun h => absurd h c2, fun _ => ⟨x1, fun _ => by rw [nI_1]; exact a1, fun h => absurd c3 h⟩⟩⟩
        · rw [f_X0_bestByTrying_L20, if_neg e, if_neg c2, if_pos c3, nI_1]; exact a2
      · have hD : Dg gb r p s := ⟨hss, Classical.byContradiction fun w => c3 (x2.mpr w)⟩
        obtain ⟨a1, b', x, y, a2, a3⟩ := ih (t + 1) n s _ (by omega) (by omega) hst' hD (fun d hd h1 => by
          by_cases h2 : 2 ^ cn p ≤ cm p (p ^^^ d) 14 + t
          · exact fun z => hq d hd h2 (z.trans hB)
          · have e := hone d hd h1 h2
            subst e
            exact Btr.irr)
        refine ⟨?_, b', x, y, ?_, a3⟩
        · rw [p_X0_bestByTrying_L20]; exact ⟨fun h => absurd h e, fun _ => ⟨q1, fun h => absurd h c2, fun _ => ⟨x1, fun h => absurd h c3, fun _ => by rw [nI_1]; exact a1⟩⟩⟩
        · rw [f_X0_bestByTrying_L20, if_neg e, if_neg c2, if_neg c3, nI_1]; exact a2
theorem try_spec {gn gu gb ga : AA} {r : Int32} (h : GI gn gu gb ga) (hr : M14 r) : p_X0_bestByTrying r (f_X0_plausibleOf gu r) gb ∧ Bst gb r (f_X0_plausibleOf gu r) (f_X0_bestByTrying r (f_X0_plausibleOf gu r) gb) := by
  obtain ⟨-, hpM, -⟩ := plOf h.2.1 hr
  have hK : 2 ^ cn (f_X0_plausibleOf gu r) ≤ 16384 := by
    have h1 : 2 ^ cn (f_X0_plausibleOf gu r) ≤ 2 ^ 14 := Nat.pow_le_pow_right (by decide) (cn_le _)
    have h2 : 2 ^ 14 = 16384 := by decide
    omega
  have hx0 : f_X0_plausibleOf gu r ^^^ 0 = f_X0_plausibleOf gu r := b_ext fun i _ => by rw [b_xor, b_0, Bool.xor_false]
  obtain ⟨a1, b', x, y, a2, a3⟩ := try_L h hr hpM (2 ^ cn (f_X0_plausibleOf gu r)) 0 16385 r 0 (Nat.zero_add _) (by omega) (fun _ => ⟨fun k hk => (by rw [b_0] at hk; cases hk), by rw [hx0]; exact cm_full _ 14⟩) ⟨plSub h.2.1 hr, EX.self gb r⟩ (fun d hd hle => by
    have := cm_lt (SubX hpM hd.1) 14
    have h4 : 2 ^ cb (f_X0_plausibleOf gu r) 14 = 2 ^ cn (f_X0_plausibleOf gu r) := rfl
    omega)
  rw [nI_0] at a1 a2
  refine ⟨⟨a1, fun _ _ _ _ => trivial⟩, ?_⟩
  unfold f_X0_bestByTrying
  rw [a2]
  exact a3
