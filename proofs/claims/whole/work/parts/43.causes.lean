/-! ===== what the calls on causes answer ===== -/
theorem i_sub1 (p c : Int32) : p - c - 1 = p - (c + 1) := by
  refine Int32.toBitVec_inj.mp ?_
  rw [Int32.toBitVec_sub, Int32.toBitVec_sub, Int32.toBitVec_sub, Int32.toBitVec_add]
  have key : ∀ P C D : BitVec 32, P - C - D = P - (C + D) := fun P C D => by bv_omega
  exact key _ _ _
theorem i_sub0 (p : Int32) : p - 0 = p := by
  refine Int32.toBitVec_inj.mp ?_
  rw [Int32.toBitVec_sub]
  exact BitVec.sub_zero _
theorem i_subz {p c : Int32} : p - c = 0 ↔ p = c := by
  constructor
  · intro h
    have h1 := congrArg Int32.toBitVec h
    rw [Int32.toBitVec_sub] at h1
    have key : ∀ P C : BitVec 32, P - C = 0#32 → P = C := fun P C q => by bv_omega
    exact Int32.toBitVec_inj.mp (key _ _ h1)
  · intro h
    subst h
    refine Int32.toBitVec_inj.mp ?_
    rw [Int32.toBitVec_sub]
    exact BitVec.sub_self _
def AtF (x p : Int32) (j : Nat) (f : Int32) : Prop := (∃ k, k < j ∧ bt x k = true ∧ p = nI (cb x k) ∧ f = nI k) ∨ ((∀ k, k < j → bt x k = true → p ≠ nI (cb x k)) ∧ f = -1)
theorem at_L (x p : Int32) : ∀ (c j n : Nat) (f : Int32), j + c = 14 → c < n → AtF x p j f → p_X5_at_L7 x n (p - nI (cb x j)) f (nI j) ∧ ∃ l f', f_X5_at_L7 x n (p - nI (cb x j)) f (nI j) = (l, f', nI 14) ∧ AtF x p 14 f' := by
  intro c
  induction c with
  | zero =>
    intro j n f hj hn hf
    obtain ⟨n, rfl⟩ : ∃ k, n = k + 1 := ⟨n - 1, by omega⟩
    have e : j = 14 := by omega
    subst e
    refine ⟨?_, p - nI (cb x 14), f, ?_, hf⟩
    · rw [p_X5_at_L7]; exact ⟨fun _ => trivial, fun h => absurd y14 h⟩
    · rw [f_X5_at_L7, if_pos y14]
  | succ c ih =>
    intro j n f hj hn hf
    obtain ⟨n, rfl⟩ : ∃ k, n = k + 1 := ⟨n - 1, by omega⟩
    have hj14 : j < 14 := by omega
    have hh := has5_0 x (n := j) (by omega)
    have pT : ∀ (A B : Prop), (A → True) ∧ (B → (A → True) ∧ (B → True)) := fun _ _ => ⟨fun _ => trivial, fun _ => ⟨fun _ => trivial, fun _ => trivial⟩⟩
    cases hb : bt x j
    · have c0 := hh.mpr hb
      have ec : cb x (j + 1) = cb x j := by rw [cb, hb]; rfl
      have hf2 : AtF x p (j + 1) f := by
        rcases hf with ⟨k, h1, h2, h3, h4⟩ | ⟨h1, h2⟩
        · exact Or.inl ⟨k, by omega, h2, h3, h4⟩
        · refine Or.inr ⟨fun k hk hk2 => ?_, h2⟩
          rcases Nat.lt_or_ge k j with q | q
          · exact h1 k q hk2
          · rw [show k = j by omega, hb] at hk2; cases hk2
      obtain ⟨a1, l, f', a2, a3⟩ := ih (j + 1) n f (by omega) (by omega) hf2
      rw [ec] at a1 a2
      refine ⟨?_, l, f', ?_, a3⟩
      · rw [p_X5_at_L7]
        refine ⟨fun h => absurd h (n14 hj14), fun _ => ⟨⟨fun _ => trivial, fun _ => ⟨fun _ => trivial, fun _ => trivial⟩⟩, fun v hv => ⟨⟨fun _ => trivial, fun _ => trivial⟩, fun w hw => ?_⟩⟩⟩
        rw [if_pos c0] at hv hw
        subst hv; subst hw
        rw [i_sub0, nI_1]
        exact a1
      · rw [f_X5_at_L7, if_neg (n14 hj14)]
        dsimp only
        rw [if_pos c0, if_pos c0, i_sub0, nI_1]
        exact a2
    · have c0 : ¬ f_X5_has x (nI j) = 0 := fun q => by rw [hh.mp q] at hb; cases hb
      have ec : cb x (j + 1) = cb x j + 1 := by rw [cb, hb]; rfl
      have el : p - nI (cb x j) - 1 = p - nI (cb x (j + 1)) := by rw [i_sub1, nI_1, ec]
      by_cases ep : p = nI (cb x j)
      · have c1 : p - nI (cb x j) = 0 := i_subz.mpr ep
        obtain ⟨a1, l, f', a2, a3⟩ := ih (j + 1) n (nI j) (by omega) (by omega) (Or.inl ⟨j, Nat.lt_succ_self _, hb, ep, rfl⟩)
        refine ⟨?_, l, f', ?_, a3⟩
        · rw [p_X5_at_L7]
          refine ⟨fun h => absurd h (n14 hj14), fun _ => ⟨⟨fun _ => trivial, fun _ => ⟨fun _ => trivial, fun _ => trivial⟩⟩, fun v hv => ⟨⟨fun _ => trivial, fun _ => trivial⟩, fun w hw => ?_⟩⟩⟩
          rw [if_neg c0, if_pos c1] at hv
          rw [if_neg c0] at hw
          subst hv; subst hw
          rw [el, nI_1]
          exact a1
        · rw [f_X5_at_L7, if_neg (n14 hj14)]
          dsimp only
          rw [if_neg c0, if_neg c0, if_pos c1, el, nI_1]
          exact a2
      · have c1 : ¬ p - nI (cb x j) = 0 := fun q => ep (i_subz.mp q)
        have hf2 : AtF x p (j + 1) f := by
          rcases hf with ⟨k, h1, h2, h3, h4⟩ | ⟨h1, h2⟩
          · exact Or.inl ⟨k, by omega, h2, h3, h4⟩
          · refine Or.inr ⟨fun k hk hk2 => ?_, h2⟩
            rcases Nat.lt_or_ge k j with q | q
            · exact h1 k q hk2
            · rw [show k = j by omega]; exact ep
        obtain ⟨a1, l, f', a2, a3⟩ := ih (j + 1) n f (by omega) (by omega) hf2
        refine ⟨?_, l, f', ?_, a3⟩
        · rw [p_X5_at_L7]
          refine ⟨fun h => absurd h (n14 hj14), fun _ => ⟨⟨fun _ => trivial, fun _ => ⟨fun _ => trivial, fun _ => trivial⟩⟩, fun v hv => ⟨⟨fun _ => trivial, fun _ => trivial⟩, fun w hw => ?_⟩⟩⟩
          rw [if_neg c0, if_neg c1] at hv
          rw [if_neg c0] at hw
          subst hv; subst hw
          rw [el, nI_1]
          exact a1
        · rw [f_X5_at_L7, if_neg (n14 hj14)]
          dsimp only
          rw [if_neg c0, if_neg c0, if_neg c1, el, nI_1]
          exact a2
theorem at_same (x p : Int32) : p_X5_at x p ∧ f_X5_at x p = f_X4_nodeAtPlace x p := by
  obtain ⟨a1, l, f', a2, a3⟩ := at_L x p 14 0 15 (-1) rfl (by decide) (Or.inr ⟨fun k hk => absurd hk (Nat.not_lt_zero _), rfl⟩)
  have e0 : p - nI (cb x 0) = p := i_sub0 p
  rw [e0, nI_0] at a1 a2
  refine ⟨⟨a1, fun _ _ _ _ => trivial⟩, ?_⟩
  have e : f_X5_at x p = f' := by unfold f_X5_at; rw [a2]
  rw [e]
  rcases a3 with ⟨k, h1, h2, h3, h4⟩ | ⟨h1, h2⟩
  · rcases (nap_spec x p).2 with ⟨i, b1, b2, b3, b4⟩ | ⟨b1, b2⟩
    · rw [h4, b4]
      have hc : cb x k = cb x i := (nI_eq (by have := cb_le x k; omega) (by have := cb_le x i; omega)).mp (h3.symm.trans b3)
      rw [cb_inj h2 b2 hc]
    · exact absurd h3 (b1 k h1 h2)
  · rcases (nap_spec x p).2 with ⟨i, b1, b2, b3, b4⟩ | ⟨b1, b2⟩
    · exact absurd b3 (h1 i b1 b2)
    · rw [h2, b2]
/-- a place that a set has: told by the number, and by what is found there -/
theorem nap_none (x p : Int32) : f_X4_nodeAtPlace x p = -1 ↔ (p < 0 ∨ nI (cn x) ≤ p) := by
  have hcn := cn_le x
  rcases (nap_spec x p).2 with ⟨k, b1, b2, b3, b4⟩ | ⟨b1, b2⟩
  · rw [b4]
    have h1 := cb_strict b2 (Nat.lt_succ_self k)
    have h2 := cb_mono x (a := k + 1) (b := 14) (by omega)
    have h3 : cb x k < cn x := Nat.lt_of_lt_of_le h1 h2
    constructor
    · intro q; exact absurd q (nI_neg1 b1)
    · rintro (q | q)
      · rw [b3] at q; exact absurd q (nI_pos (by omega))
      · rw [b3] at q; exact absurd q (nI_ge h3 (by omega))
  · rw [b2]
    refine ⟨fun _ => ?_, fun _ => rfl⟩
    rcases pk_ix p (n := cn x) (by omega) with q | q | ⟨j, hj, q⟩
    · exact Or.inl q
    · exact Or.inr q
    · obtain ⟨k, c1, c2, c3⟩ := cb_kth (x := x) (c := j) (n := 14) hj
      exact absurd (by rw [q, c3]) (b1 k c1 c2)
/-- the class's answer and the reference's: both refuse, or both answer the same -/
def Ag1 (o : String ⊕ Int32) (m : Int32 × Int32) : Prop := (∃ E, o = .inl E ∧ m.2 = 1) ∨ ∃ v, o = .inr v ∧ m = (v, 0)
theorem goes1 (j : Int32) : f_X5_goes j 1 = if j = 0 then (0, 1) else (1, 0) := by
  unfold f_X5_goes
  dsimp only
  by_cases h : j = 0
  · rw [if_pos h, if_pos h]; rfl
  · rw [if_neg h, if_neg h]; rfl
theorem diag_eq (r : Int32) (gu : AA) : f_X4_diagnoser r gu = (r, f_X0_plausibleOf gu r) := rfl
theorem diag_p {gu : AA} {r : Int32} (hu : RM gu) (hr : M14 r) : p_X4_diagnoser r gu := ⟨⟨(plOf hu hr).1, trivial⟩, fun _ _ _ => trivial⟩
theorem cause_in (b p : Int32) (hb : M14 b) : (if p < 0 then (0 : Int32) else (if f_X5_count b ≤ p then (0 : Int32) else (1 : Int32))) = 0 ↔ f_X4_nodeAtPlace b p = -1 := by
  rw [(count5 b).2, nap_none b p]
  by_cases h1 : p < 0
  · rw [if_pos h1]; simp [h1]
  · rw [if_neg h1]
    by_cases h2 : nI (cn b) ≤ p
    · rw [if_pos h2]; simp [h2]
    · rw [if_neg h2]; simp [h1, h2]
theorem cause5 {gn gu gb ga mn mu : AA} {r : Int32} (h : GI gn gu gb ga) (hs : SG gn gb mn mu) (hr : M14 r) (p : Int32) : p_X5_cause r mn mu p ∧ f_X5_cause r mn mu p = if f_X4_nodeAtPlace (f_X5_best r mn mu) p = -1 then (0, 1) else (f_X4_nodeAtPlace (f_X5_best r mn mu) p, 0) := by
  obtain ⟨-, -, hM⟩ := best_all h hs hr
  have hc := cause_in (f_X5_best r mn mu) p hM
  constructor
  · refine ⟨(best5 h hs hr).1, ⟨fun _ => trivial, fun _ => ⟨(count5 _).1, fun _ => trivial, fun _ => trivial⟩⟩, fun j hj a b hab => ⟨⟨fun _ => trivial, fun _ => ⟨(at_same _ _).1, trivial⟩⟩, fun _ _ => trivial⟩⟩
  · unfold f_X5_cause
    dsimp only
    rw [goes1, (at_same _ _).2]
    by_cases c : f_X4_nodeAtPlace (f_X5_best r mn mu) p = -1
    · rw [if_pos (hc.mpr c), if_pos c]
      rfl
    · rw [if_neg (fun q => c (hc.mp q)), if_neg c]
      rfl
theorem there (b p : Int32) : p_X4_nodeThere b p ∧ f_X4_nodeThere b p = if f_X4_nodeAtPlace b p = -1 then .inl eIO else .inr (f_X4_nodeAtPlace b p) := ⟨⟨(nap_spec b p).1, fun _ => trivial, fun _ => trivial⟩, rfl⟩
theorem ag_cause {gn gu gb ga mn mu : AA} {r : Int32} (h : GI gn gu gb ga) (hs : SG gn gb mn mu) (hr : M14 r) (p : Int32) : p_X4_cause r gu gb ga p ∧ p_X5_cause r mn mu p ∧ Ag1 (f_X4_cause r gu gb ga p) (f_X5_cause r mn mu p) := by
  obtain ⟨e1, -, hM⟩ := best_all h hs hr
  refine ⟨⟨diag_p h.2.1 hr, fun u v huv => ?_⟩, (cause5 h hs hr p).1, ?_⟩
  · rw [diag_eq] at huv
    cases huv
    exact ⟨(search_best h hr).1, (there _ _).1, fun _ _ => trivial⟩
  · rw [(cause5 h hs hr p).2]
    unfold f_X4_cause
    rw [diag_eq]
    dsimp only
    rw [e1, (there _ _).2]
    by_cases c : f_X4_nodeAtPlace (f_X5_best r mn mu) p = -1
    · rw [if_pos c, if_pos c]; exact Or.inl ⟨eIO, rfl, rfl⟩
    · rw [if_neg c, if_neg c]; exact Or.inr ⟨_, rfl, rfl⟩
theorem ag_try {gn gu gb ga mn mu : AA} {r : Int32} (h : GI gn gu gb ga) (hs : SG gn gb mn mu) (hr : M14 r) (p : Int32) : p_X4_causeByTrying r gu gb p ∧ p_X5_causeByTrying r mn mu p ∧ Ag1 (f_X4_causeByTrying r gu gb p) (f_X5_causeByTrying r mn mu p) := by
  obtain ⟨-, e1, hM⟩ := best_all h hs hr
  refine ⟨⟨diag_p h.2.1 hr, fun u v huv => ?_⟩, ⟨(cause5 h hs hr p).1, fun _ _ _ => trivial⟩, ?_⟩
  · rw [diag_eq] at huv
    cases huv
    exact ⟨(try_spec h hr).1, (there _ _).1, fun _ _ => trivial⟩
  · unfold f_X5_causeByTrying
    rw [(cause5 h hs hr p).2]
    unfold f_X4_causeByTrying
    rw [diag_eq]
    dsimp only
    rw [e1, (there _ _).2]
    by_cases c : f_X4_nodeAtPlace (f_X5_best r mn mu) p = -1
    · rw [if_pos c, if_pos c]; exact Or.inl ⟨eIO, rfl, rfl⟩
    · rw [if_neg c, if_neg c]; exact Or.inr ⟨_, rfl, rfl⟩
theorem ag_causes {gn gu gb ga mn mu : AA} {r : Int32} (h : GI gn gu gb ga) (hs : SG gn gb mn mu) (hr : M14 r) : p_X4_causes r gu gb ga ∧ p_X5_causes r mn mu ∧ f_X5_causes r mn mu = (f_X4_causes r gu gb ga, 0) := by
  obtain ⟨e1, -, hM⟩ := best_all h hs hr
  refine ⟨⟨diag_p h.2.1 hr, fun u v huv => ?_⟩, ⟨(best5 h hs hr).1, (count5 _).1, trivial⟩, ?_⟩
  · rw [diag_eq] at huv
    cases huv
    exact ⟨(search_best h hr).1, trivial⟩
  · unfold f_X5_causes f_X4_causes
    rw [diag_eq]
    dsimp only
    rw [e1, count6 hM, (count5 _).2]
theorem ag_gcount {gn gu gb ga mn mu : AA} {r : Int32} (h : GI gn gu gb ga) (hs : SG gn gb mn mu) (hr : M14 r) : p_X4_greedyCauses r gu ga ∧ p_X5_greedyCauses r mn mu ∧ f_X5_greedyCauses r mn mu = (f_X4_greedyCauses r gu ga, 0) := by
  obtain ⟨a1, a2, a3⟩ := gcount h hs hr
  refine ⟨⟨diag_p h.2.1 hr, fun u v huv => ?_⟩, a2, a3⟩
  rw [diag_eq] at huv
  cases huv
  exact ⟨a1, trivial⟩
