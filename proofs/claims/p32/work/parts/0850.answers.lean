/-! ===== what the law's own calls answer ===== -/
theorem chk {i : Nat} (hi : i < 14) : f_X4_checkNode (nI i) = .inr () := by
  have n0 : ¬ nI i < 0 := nI_pos (by omega)
  have n1 : nI i < (14 : Int32) := nI_lt (b := 14) hi (by decide)
  unfold f_X4_checkNode
  rw [if_neg n0, if_pos n1]
theorem ite01 (b : Bool) : (if (if b = true then (1 : Int32) else 0) = 0 then (0 : Int32) else 1) = if b = true then 1 else 0 := by cases b <;> decide +kernel
theorem ite10 (b : Bool) : ¬ (if (if b = true then (0 : Int32) else 1) = 0 then (0 : Int32) else 1) < 0 := by cases b <;> decide +kernel
theorem b01 (b : Bool) : (if b = true then (1 : Int32) else 0) = 1 ↔ b = true := by cases b <;> decide +kernel
theorem b00 (b : Bool) : (if b = true then (1 : Int32) else 0) = 0 ↔ b = false := by cases b <;> decide +kernel
theorem sh1 (x : Int32) {n : Nat} (hn : n < 32) : (x >>> (nI n &&& 31)) &&& 1 = 1 ↔ bt x n = true := by rw [shr1 x hn]; exact b01 _
theorem q_needs (gn : AA) {i j : Nat} (hi : i < 14) (hj : j < 14) : p_L_needs gn (nI i) (nI j) ∧ f_L_needs gn (nI i) (nI j) = if bt (gn i) j = true then 1 else 0 := by
  have e : f_X4_needs gn (nI i) (nI j) = .inr (if bt (gn i) j = true then 1 else 0) := by
    unfold f_X4_needs
    rw [chk hi, chk hj]
    dsimp only
    rw [ndd hi, has4 _ (by omega)]
  refine ⟨⟨fun _ _ => ⟨⟨in14 hi, trivial⟩, trivial⟩, fun r hr => ⟨⟨fun _ => trivial, fun _ => trivial⟩, fun _ _ => trivial⟩⟩, ?_⟩
  unfold f_L_needs
  rw [e]
  exact ite01 _
theorem q_depends (gb : AA) {i j : Nat} (hi : i < 14) (hj : j < 14) : p_L_depends gb (nI i) (nI j) ∧ f_L_depends gb (nI i) (nI j) = if bt (gb i) j = true then 1 else 0 := by
  have e : f_X4_dependsOn gb (nI i) (nI j) = .inr (if bt (gb i) j = true then 1 else 0) := by
    unfold f_X4_dependsOn
    rw [chk hi, chk hj]
    dsimp only
    rw [bel hi, has4 _ (by omega)]
  refine ⟨⟨fun _ _ => ⟨⟨in14 hi, trivial⟩, trivial⟩, fun r hr => ⟨⟨fun _ => trivial, fun _ => trivial⟩, fun _ _ => trivial⟩⟩, ?_⟩
  unfold f_L_depends
  rw [e]
  exact ite01 _
/-- the height of a node -/
def Hh (g : AA) (i : Nat) : Nat := (f_L_height g (nI i)).toNatClampNeg
theorem q_height {g : AA} (hg : RM g) (ha : Ac (NR g)) {i : Nat} (hi : i < 14) : p_L_height g (nI i) ∧ f_L_height g (nI i) = nI (Hh g i) ∧ Hh g i < 14 ∧ Hg g i (Hh g i) := by
  obtain ⟨p1, h, e, h14, hh⟩ := lwd_spec hg ha hi
  have e2 : f_X4_height g (nI i) = .inr (nI h) := by
    unfold f_X4_height
    rw [chk hi]
    dsimp only
    rw [e]
  have e3 : f_L_height g (nI i) = nI h := by
    unfold f_L_height
    rw [e2]
  have e4 : Hh g i = h := by unfold Hh; rw [e3, cl (by omega)]
  refine ⟨⟨fun _ => ⟨p1, trivial⟩, fun _ _ => trivial⟩, ?_, ?_, ?_⟩
  · rw [e4]; exact e3
  · rw [e4]; exact h14
  · rw [e4]; exact hh
theorem q_need {gn gu gb ga : AA} (h : GI gn gu gb ga) {i j : Nat} (hi : i < 14) (hj : j < 14) : p_L_need gn gu gb ga (nI i) (nI j) ∧
    (((i = j ∨ bt (gb j) i = true) ∧ f_L_need gn gu gb ga (nI i) (nI j) = (-102, gn, gu, gb, ga)) ∨
     (¬ (i = j ∨ bt (gb j) i = true) ∧ ∃ v gn' gu' gb' ga', f_L_need gn gu gb ga (nI i) (nI j) = (v, gn', gu', gb', ga') ∧ ¬ v < 0 ∧ GI gn' gu' gb' ga' ∧ bt (gn' i) j = true)) := by
  have hgb := has_gb h hi hj
  have hb4 := has4_0 (gb j) (n := i) (by omega)
  have hnij : ¬ i = j → ¬ nI i = nI j := fun q c => q ((nI_eq (by omega) (by omega)).mp c)
  constructor
  · refine ⟨fun _ _ => ⟨fun _ => trivial, fun q3 => ⟨⟨in14 hj, trivial⟩, fun q4 => ⟨?_, fun _ _ _ _ _ _ => trivial⟩, fun _ => trivial⟩⟩, fun _ _ _ _ _ _ => ⟨⟨fun _ => trivial, fun _ => trivial⟩, fun _ _ => trivial⟩⟩
    rw [bel hj, hgb] at q4
    exact (link_spec h hi hj (fun c => q3 (by rw [c])) q4).1
  · by_cases hij : i = j
    · refine Or.inl ⟨Or.inl hij, ?_⟩
      have e : f_X4_need gn gu gb ga (nI i) (nI j) = .inl eIA := by
        unfold f_X4_need
        rw [chk hi, chk hj]
        dsimp only
        rw [if_pos (by rw [hij])]
      unfold f_L_need
      rw [e]
      dsimp only
      rw [if_neg eIA_ne]
    · cases hc : bt (gb j) i
      · obtain ⟨l1, gn', gu', gb', ga', l2, l3, l4⟩ := link_spec h hi hj hij (hgb.mp (hb4.mpr hc))
        refine Or.inr ⟨fun q => q.elim hij (fun q => by cases q), (if (if bt (gn i) j = true then (0 : Int32) else 1) = 0 then 0 else 1), gn', gu', gb', ga', ?_, ite10 _, l3, ?_⟩
        · have e : f_X4_need gn gu gb ga (nI i) (nI j) = .inr ((if bt (gn i) j = true then 0 else 1), gn', gu', gb', ga') := by
            unfold f_X4_need
            rw [chk hi, chk hj]
            dsimp only
            rw [if_neg (hnij hij), bel hj, if_pos (hb4.mpr hc), l2]
          unfold f_L_need
          rw [e]
        · rw [l4 i hi, upd_at, if_pos rfl, b_or, (only_bT hj).mpr rfl, Bool.or_true]
      · refine Or.inl ⟨Or.inr rfl, ?_⟩
        have e : f_X4_need gn gu gb ga (nI i) (nI j) = .inl eIA := by
          unfold f_X4_need
          rw [chk hi, chk hj]
          dsimp only
          rw [if_neg (hnij hij), bel hj, if_neg (fun c => by rw [hb4.mp c] at hc; cases hc)]
        unfold f_L_need
        rw [e]
        dsimp only
        rw [if_neg eIA_ne]
theorem q_release {gn gu gb ga : AA} (h : GI gn gu gb ga) {i j : Nat} (hi : i < 14) (hj : j < 14) : p_L_release gn gu gb ga (nI i) (nI j) ∧
    ∃ gn' gu' gb' ga', f_L_release gn gu gb ga (nI i) (nI j) = ((if bt (gn i) j = true then 1 else 0), gn', gu', gb', ga') ∧ GI gn' gu' gb' ga' ∧ bt (gn' i) j = false := by
  obtain ⟨l1, gn', gu', gb', ga', l2, l3, l4⟩ := unlink_spec h hi hj
  constructor
  · exact ⟨fun _ _ => ⟨l1, fun _ _ _ _ _ _ => trivial⟩, fun _ _ _ _ _ _ => ⟨⟨fun _ => trivial, fun _ => trivial⟩, fun _ _ => trivial⟩⟩
  · refine ⟨gn', gu', gb', ga', ?_, l3, ?_⟩
    · have e : f_X4_release gn gu gb ga (nI i) (nI j) = .inr ((if bt (gn i) j = true then 1 else 0), gn', gu', gb', ga') := by
        unfold f_X4_release
        rw [chk hi, chk hj]
        dsimp only
        rw [l2]
      unfold f_L_release
      rw [e]
      dsimp only
      rw [ite01]
    · rw [l4 i hi, upd_at, if_pos rfl, b_and, not_b _ (by omega), (only_bT hj).mpr rfl]
      exact Bool.and_false _
theorem q_tick (xt : Int32) {m : Nat} (h1 : 1 ≤ m) (h2 : m ≤ 100) : f_L_tick xt (nI m) = (xt + nI m, xt + nI m) := by
  have e : f_X4_checkTicks (nI m) 100 = .inr () := by
    have n0 : ¬ nI m < 1 := nI_nlt (b := 1) h1 (by omega)
    have n1 : nI m ≤ (100 : Int32) := nI_le (b := 100) h2 (by decide)
    unfold f_X4_checkTicks
    rw [if_neg n0, if_pos n1]
  unfold f_L_tick f_X4_tick
  rw [e]
theorem q_ticket (tn : AA) {k : Nat} (hk : k < 14) : p_L_ticket tn (nI k) ∧ f_L_ticket tn (nI k) = tn k := by
  have e : f_X4_ticketOf tn (nI k) = .inr (tn k) := by
    unfold f_X4_ticketOf f_X3_numberOf
    rw [chk hk, cl (by omega)]
  refine ⟨⟨fun _ => ⟨⟨in14 hk, trivial⟩, trivial⟩, fun _ _ => trivial⟩, ?_⟩
  unfold f_L_ticket
  rw [e]
/-! causes -/
abbrev PP (gu : AA) (r : Int32) : Int32 := f_X0_plausibleOf gu r
abbrev BB (gu gb ga : AA) (r : Int32) : Int32 := f_X0_bestBySearch r (f_X0_plausibleOf gu r) gb ga
theorem BB_M {gn gu gb ga : AA} (h : GI gn gu gb ga) {r : Int32} (hr : M14 r) : M14 (BB gu gb ga r) := (search_best h hr).2.1.1.M (plOf h.2.1 hr).2.1
theorem q_plaus {gu : AA} (hu : RM gu) {r : Int32} (hr : M14 r) {k : Nat} (hk : k < 14) : p_L_plausible r gu (nI k) ∧ f_L_plausible r gu (nI k) = if bt (PP gu r) k = true then 1 else 0 := by
  have e : f_X4_isPlausible r gu (nI k) = .inr (if bt (PP gu r) k = true then 1 else 0) := by
    unfold f_X4_isPlausible
    rw [chk hk, diag_eq]
    dsimp only
    unfold f_X0_plausibleNodes
    rw [has4 _ (by omega)]
  refine ⟨⟨fun _ => ⟨diag_p hu hr, fun _ _ _ => trivial⟩, fun _ _ => ⟨⟨fun _ => trivial, fun _ => trivial⟩, fun _ _ => trivial⟩⟩, ?_⟩
  unfold f_L_plausible
  rw [e]
  exact ite01 _
theorem q_causes {gn gu gb ga : AA} (h : GI gn gu gb ga) {r : Int32} (hr : M14 r) : p_X4_causes r gu gb ga ∧ f_X4_causes r gu gb ga = nI (cn (BB gu gb ga r)) := by
  refine ⟨⟨diag_p h.2.1 hr, fun u v huv => ?_⟩, ?_⟩
  · rw [diag_eq] at huv
    cases huv
    exact ⟨(search_best h hr).1, trivial⟩
  · unfold f_X4_causes
    rw [diag_eq]
    dsimp only
    exact count6 (BB_M h hr)
theorem q_cause {gn gu gb ga : AA} (h : GI gn gu gb ga) {r : Int32} (hr : M14 r) (p : Int32) : p_L_cause r gu gb ga p ∧ f_L_cause r gu gb ga p = if f_X4_nodeAtPlace (BB gu gb ga r) p = -1 then -101 else f_X4_nodeAtPlace (BB gu gb ga r) p := by
  refine ⟨⟨⟨diag_p h.2.1 hr, fun u v huv => ?_⟩, fun _ _ => trivial⟩, ?_⟩
  · rw [diag_eq] at huv
    cases huv
    exact ⟨(search_best h hr).1, (there _ _).1, fun _ _ => trivial⟩
  · unfold f_L_cause f_X4_cause
    rw [diag_eq]
    dsimp only
    rw [(there _ _).2]
    by_cases c : f_X4_nodeAtPlace (BB gu gb ga r) p = -1
    · rw [if_pos c, if_pos c]
    · rw [if_neg c, if_neg c]
theorem try_eq {gn gu gb ga : AA} (h : GI gn gu gb ga) {r : Int32} (hr : M14 r) : f_X0_bestByTrying r (f_X0_plausibleOf gu r) gb = BB gu gb ga r := Bst.one (plOf h.2.1 hr).2.1 (try_spec h hr).2 (search_best h hr).2
theorem q_tried {gn gu gb ga : AA} (h : GI gn gu gb ga) {r : Int32} (hr : M14 r) (p : Int32) : p_L_tried r gu gb p ∧ f_L_tried r gu gb p = if f_X4_nodeAtPlace (BB gu gb ga r) p = -1 then -101 else f_X4_nodeAtPlace (BB gu gb ga r) p := by
  refine ⟨⟨⟨diag_p h.2.1 hr, fun u v huv => ?_⟩, fun _ _ => trivial⟩, ?_⟩
  · rw [diag_eq] at huv
    cases huv
    exact ⟨(try_spec h hr).1, (there _ _).1, fun _ _ => trivial⟩
  · unfold f_L_tried f_X4_causeByTrying
    rw [diag_eq]
    dsimp only
    rw [(there _ _).2, try_eq h hr]
    by_cases c : f_X4_nodeAtPlace (BB gu gb ga r) p = -1
    · rw [if_pos c, if_pos c]
    · rw [if_neg c, if_neg c]
theorem q_gcount {gn gu gb ga : AA} (h : GI gn gu gb ga) {r : Int32} (hr : M14 r) : p_X4_greedyCauses r gu ga ∧ ∃ k, k ≤ 14 ∧ f_X4_greedyCauses r gu ga = nI k ∧ Gu gu ga r k = 0 ∧ ∀ s, s < k → Gu gu ga r s ≠ 0 := by
  obtain ⟨p1, k, hk, e1, e2, e3⟩ := gcount h hr
  refine ⟨⟨diag_p h.2.1 hr, fun u v huv => ?_⟩, k, hk, ?_, e2, e3⟩
  · rw [diag_eq] at huv
    cases huv
    exact ⟨p1, trivial⟩
  · unfold f_X4_greedyCauses
    rw [diag_eq]
    exact e1
theorem gat {gn gu gb ga : AA} (h : GI gn gu gb ga) {r : Int32} (hr : M14 r) (a : Int32) : p_X0_greedyAt r (f_X0_plausibleOf gu r) ga a ∧ ((∃ k, k < 14 ∧ a = nI k ∧ f_X0_greedyAt r (f_X0_plausibleOf gu r) ga a = Gn gu ga r k) ∨ ((∀ k, k < 14 → a ≠ nI k) ∧ f_X0_greedyAt r (f_X0_plausibleOf gu r) ga a = -1)) := by
  obtain ⟨p1, p2⟩ := gat_X (a := a) h hr 14 0 15 rfl (by decide) (fun k hk => absurd hk (Nat.not_lt_zero _))
  have e : Gu gu ga r 0 = r := rfl
  rw [nI_0, e] at p1 p2
  refine ⟨p1, ?_⟩
  unfold f_X0_greedyAt
  rcases p2 with ⟨k, -, k1, k2, k3⟩ | q
  · exact Or.inl ⟨k, k1, k2, k3⟩
  · exact Or.inr q
theorem q_greedy {gn gu gb ga : AA} (h : GI gn gu gb ga) {r : Int32} (hr : M14 r) (a : Int32) : p_L_greedy r gu ga a ∧ f_L_greedy r gu ga a = if f_X0_greedyAt r (f_X0_plausibleOf gu r) ga a = -1 then -101 else f_X0_greedyAt r (f_X0_plausibleOf gu r) ga a := by
  refine ⟨⟨⟨diag_p h.2.1 hr, fun u v huv => ?_⟩, fun _ _ => trivial⟩, ?_⟩
  · rw [diag_eq] at huv
    cases huv
    exact ⟨(gat h hr a).1, fun _ => trivial, fun _ => trivial⟩
  · unfold f_L_greedy f_X4_greedyCause
    rw [diag_eq]
    dsimp only
    by_cases c : f_X0_greedyAt r (f_X0_plausibleOf gu r) ga a = -1
    · rw [if_pos c, if_pos c]
    · rw [if_neg c, if_neg c]
theorem q_causeOf {gn gu gb ga : AA} (h : GI gn gu gb ga) {r : Int32} (hr : M14 r) {k : Nat} (hk : k < 14) : p_L_causeOf r gu gb ga (nI k) ∧ f_L_causeOf r gu gb ga (nI k) = if bt r k = true then f_X4_nodeAtPlace (BB gu gb ga r &&& f_X1_explainersOf gb (nI k)) 0 else -1 := by
  refine ⟨⟨fun _ => ⟨fun _ => trivial, fun _ => ⟨diag_p h.2.1 hr, fun u v huv => ?_⟩⟩, fun _ _ => trivial⟩, ?_⟩
  · rw [diag_eq] at huv
    cases huv
    exact ⟨(search_best h hr).1, ⟨in14 hk, trivial⟩, (nap_spec _ _).1, trivial⟩
  · have hh := has4_0 r (n := k) (by omega)
    unfold f_L_causeOf f_X4_causeOf
    rw [chk hk, diag_eq]
    dsimp only
    cases hb : bt r k
    · rw [if_pos (hh.mpr hb), if_neg (by decide)]
    · rw [if_neg (fun c => by rw [hh.mp c] at hb; cases hb), if_pos rfl]
