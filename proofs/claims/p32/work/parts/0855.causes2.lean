/-! ===== the law's check of the causes ===== -/
theorem causes_ok {gn gu gb ga : AA} (h : GI gn gu gb ga) {r : Int32} (hr : M14 r) {tn : AA} (hT : TR r tn) : p_L_causes r gn gu gb ga tn ∧ f_L_causes r gn gu gb ga tn = 1 := by
  have k1 : ¬ (1 : Int32) = 0 := by decide
  have hcn := cn_le (BB gu gb ga r)
  obtain ⟨pa, kl, ea, hE⟩ := q_list h hr hT
  obtain ⟨pb, eb⟩ := q_can h hr
  obtain ⟨pc, l', ec⟩ := q_causesL h hr
  obtain ⟨pd, ed⟩ := q_causes h hr
  obtain ⟨pe, K, hK, eK, hz, hnz⟩ := q_gcount h hr
  obtain ⟨pf, z0, ef, ez⟩ := greedy_S h hr hE hK eK hz hnz K 0 15 (Nat.zero_add _) (by omega)
  obtain ⟨pg, eg⟩ := of_S h hr hE 14 0 15 rfl (by decide)
  have e0 : Gu gu ga r 0 = r := rfl
  rw [e0] at pf ef
  rw [nI_0] at pf ef pg eg
  obtain ⟨ph, eh⟩ := q_isBest h hE hr (plOf h.2.1 hr).2.1 (search_best h hr).2
  have hmany := greedy_many h hr hz hnz
  have n1 : f_X4_nodeAtPlace (BB gu gb ga r) (nI (cn (BB gu gb ga r))) = -1 := (nap_none _ _).mpr (Or.inr (nI_le (Nat.le_refl _) (by omega)))
  have n2 : f_X4_nodeAtPlace (BB gu gb ga r) (-1) = -1 := (nap_none _ _).mpr (Or.inl (by decide))
  have v1 : f_L_cause r gu gb ga (f_X4_causes r gu gb ga) = -101 := by rw [ed, (q_cause h hr _).2, if_pos n1]
  have v2 : f_L_tried r gu gb (f_X4_causes r gu gb ga) = -101 := by rw [ed, (q_tried h hr _).2, if_pos n1]
  have v3 : f_L_cause r gu gb ga (-1) = -101 := by rw [(q_cause h hr _).2, if_pos n2]
  have m1 : f_X0_greedyAt r (f_X0_plausibleOf gu r) ga (nI K) = -1 := by
    rcases (gat h hr (nI K)).2 with ⟨k, k1, k2, k3⟩ | ⟨-, k2⟩
    · have ek : K = k := (nI_eq (by omega) (by omega)).mp k2
      rw [k3, ← ek]
      unfold Gn
      rw [if_pos hz]
    · exact k2
  have m2 : f_X0_greedyAt r (f_X0_plausibleOf gu r) ga (-1) = -1 := by
    rcases (gat h hr (-1)).2 with ⟨k, k1, k2, -⟩ | ⟨-, k2⟩
    · exact absurd k2.symm (nI_neg1 k1)
    · exact k2
  have v4 : f_L_greedy r gu ga (f_X4_greedyCauses r gu ga) = -101 := by rw [eK, (q_greedy h hr _).2, if_pos m1]
  have v5 : f_L_greedy r gu ga (-1) = -101 := by rw [(q_greedy h hr _).2, if_pos m2]
  have v6 : ¬ f_X4_greedyCauses r gu ga < f_X4_causes r gu gb ga := by rw [eK, ed]; exact nI_nlt hmany (by omega)
  have e44 : (if (1 : Int32) = 0 then (0 : Int32) else (if f_L_cause r gu gb ga (f_X4_causes r gu gb ga) = (-101) then (if f_L_tried r gu gb (f_X4_causes r gu gb ga) = (-101) then (if f_L_cause r gu gb ga ((-1) : Int32) = (-101) then (if f_L_isBest kl (PP gu r) r (BB gu gb ga r) = 0 then (0 : Int32) else (1 : Int32)) else (0 : Int32)) else (0 : Int32)) else (0 : Int32))) = 1 := by
    rw [if_neg k1, if_pos v1, if_pos v2, if_pos v3, eh, if_neg k1]
  have e92 : (if (1 : Int32) = 0 then (0 : Int32) else (if z0 = 0 then (if f_X4_greedyCauses r gu ga < f_X4_causes r gu gb ga then (0 : Int32) else (if f_L_greedy r gu ga (f_X4_greedyCauses r gu ga) = (-101) then (if f_L_greedy r gu ga ((-1) : Int32) = (-101) then (1 : Int32) else (0 : Int32)) else (0 : Int32))) else (0 : Int32))) = 1 := by
    rw [if_neg k1, if_pos ez, if_neg v6, if_pos v4, if_pos v5]
  constructor
  · refine ⟨pa, fun x1 x2 x3 q => ?_⟩
    rw [ea] at q
    cases q
    refine ⟨pb, fun x1 x2 x3 q => ?_⟩
    rw [eb] at q
    cases q
    refine ⟨pc, fun x1 x2 x3 x4 q => ?_⟩
    rw [ec] at q
    cases q
    refine ⟨⟨fun _ => trivial, fun _ => ⟨pd, (q_cause h hr _).1, fun _ => ⟨pd, (q_tried h hr _).1, fun _ => ⟨(q_cause h hr _).1, fun _ => ⟨ph, fun _ => trivial, fun _ => trivial⟩, fun _ => trivial⟩, fun _ => trivial⟩, fun _ => trivial⟩⟩, fun y q => ?_⟩
    rw [e44] at q
    subst q
    refine ⟨pe, pf, fun x1 x2 x3 q => ?_⟩
    rw [ef] at q
    cases q
    refine ⟨⟨fun _ => trivial, fun _ => ⟨fun _ => ⟨pd, fun _ => trivial, fun _ => ⟨(q_greedy h hr _).1, fun _ => ⟨(q_greedy h hr _).1, fun _ => trivial, fun _ => trivial⟩, fun _ => trivial⟩⟩, fun _ => trivial⟩⟩, fun y q => ?_⟩
    rw [e92] at q
    subst q
    refine ⟨pg, fun x1 x2 q => ?_⟩
    rw [eg] at q
    cases q
    exact ⟨Or.inr rfl, trivial⟩
  · unfold f_L_causes
    rw [ea]
    dsimp only
    rw [eb]
    dsimp only
    rw [ec]
    dsimp only
    rw [e44, ef]
    dsimp only
    rw [e92, eg]
