theorem k_c9 {rcf : Int32 → Int32 → Int32 → AA → AA → AA → AA → Int32 → AA → AA → AA → AA → AA → Int32 → AA → AA → Int32 → Int32 → Int32 → Int32 → Int32 → AA → AA → AA → AA → AA → AA → AA → AA → AA → AA → AA → LA → Int32} {rcp : Int32 → Int32 → Int32 → AA → AA → AA → AA → Int32 → AA → AA → AA → AA → AA → Int32 → AA → AA → Int32 → Int32 → Int32 → Int32 → Int32 → AA → AA → AA → AA → AA → AA → AA → AA → AA → AA → AA → LA → Prop} {xs : AA} {L : Nat} {v : Int32} {C T : Nat} {r t : Int32} {gn gu gb ga lk ln lt ll lr tn tt mn mu mt md mz mi : AA} {oo : LA} (h : Rel C T r gn gu gb ga tn tt mn mu mt md mz mi) (H : RF rcf (v + 3)) (P : RP rcp (v + 3)) (hA : vp_in (v + 1) L) (hB : vp_in (v + 2) L) : f_L_c9 rcf xs v r t gn gu gb ga (nI C) lk ln lt ll lr (nI T) tn tt r (nI T) (nI C) t mn mu lr mt md mz mi lk ln lt ll oo = 1 ∧ p_L_c9 rcp xs L v r t gn gu gb ga (nI C) lk ln lt ll lr (nI T) tn tt r (nI T) (nI C) t mn mu lr mt md mz mi lk ln lt ll oo := by
  obtain ⟨hG, hS, hM, hC, hT, hK⟩ := id h
  obtain ⟨p4, p5, ag⟩ := ag_state hS hC (xs (v + 1).toNatClampNeg)
  rcases ag with ⟨E, e1, e0⟩ | ⟨w, e1, e2⟩
  · obtain ⟨x, e2⟩ := pair_of e0
    have hL : f_L_state r t gb (nI C) lk ln lt oo (xs (v + 1).toNatClampNeg) = (1, oo) := by unfold f_L_state; rw [e1]
    refine ⟨?_, hA, ⟨p4, by intros; trivial⟩, by intro _ _ q; rw [hL] at q; cases q; exact ⟨hA, p5, by intro _ _ q; rw [e2] at q; cases q; exact ⟨fun _ => ⟨fun _ => ⟨fun _ => P _ _ _ _ _ _ _ _ _ _ _ _ _ _ _ _ _ _ _ _ _ _ _ h, fun _ => trivial⟩, fun _ => P _ _ _ _ _ _ _ _ _ _ _ _ _ _ _ _ _ _ _ _ _ _ _ h⟩, fun _ => trivial⟩⟩⟩
    unfold f_L_c9
    rw [hL, e2]
    exact law_if (c := 1) (d := 1) rfl (fun q => absurd q n10) (fun _ => H _ _ _ _ _ _ _ _ _ _ _ _ _ _ _ _ _ _ _ _ _ _ _ h)
  · have hL : f_L_state r t gb (nI C) lk ln lt oo (xs (v + 1).toNatClampNeg) = (0, (vp_updL oo (0 : Int32).toNatClampNeg w.toInt64)) := by unfold f_L_state; rw [e1]
    refine ⟨?_, hA, ⟨p4, by intros; trivial⟩, by intro _ _ q; rw [hL] at q; cases q; exact ⟨hA, p5, by intro _ _ q; rw [e2] at q; cases q; exact ⟨fun _ => ⟨fun _ => ⟨fun _ => P _ _ _ _ _ _ _ _ _ _ _ _ _ _ _ _ _ _ _ _ _ _ _ h, fun _ => trivial⟩, fun _ => P _ _ _ _ _ _ _ _ _ _ _ _ _ _ _ _ _ _ _ _ _ _ _ h⟩, fun _ => trivial⟩⟩⟩
    unfold f_L_c9
    rw [hL, e2]
    exact law_if (c := 0) (d := 0) rfl (fun _ => cmp_if pk_uLs (H _ _ _ _ _ _ _ _ _ _ _ _ _ _ _ _ _ _ _ _ _ _ _ h)) (fun q => absurd rfl q)
theorem k_c10 {rcf : Int32 → Int32 → Int32 → AA → AA → AA → AA → Int32 → AA → AA → AA → AA → AA → Int32 → AA → AA → Int32 → Int32 → Int32 → Int32 → Int32 → AA → AA → AA → AA → AA → AA → AA → AA → AA → AA → AA → LA → Int32} {rcp : Int32 → Int32 → Int32 → AA → AA → AA → AA → Int32 → AA → AA → AA → AA → AA → Int32 → AA → AA → Int32 → Int32 → Int32 → Int32 → Int32 → AA → AA → AA → AA → AA → AA → AA → AA → AA → AA → AA → LA → Prop} {xs : AA} {L : Nat} {v : Int32} {C T : Nat} {r t : Int32} {gn gu gb ga lk ln lt ll lr tn tt mn mu mt md mz mi : AA} {oo : LA} (h : Rel C T r gn gu gb ga tn tt mn mu mt md mz mi) (H : RF rcf (v + 3)) (P : RP rcp (v + 3)) (hA : vp_in (v + 1) L) (hB : vp_in (v + 2) L) : f_L_c10 rcf xs v r t gn gu gb ga (nI C) lk ln lt ll lr (nI T) tn tt r (nI T) (nI C) t mn mu lr mt md mz mi lk ln lt ll oo = 1 ∧ p_L_c10 rcp xs L v r t gn gu gb ga (nI C) lk ln lt ll lr (nI T) tn tt r (nI T) (nI C) t mn mu lr mt md mz mi lk ln lt ll oo := by
  obtain ⟨hG, hS, hM, hC, hT, hK⟩ := id h
  obtain ⟨p4, p5, ag⟩ := ag_nodes hS hC (xs (v + 1).toNatClampNeg)
  rcases ag with ⟨E, e1, e0⟩ | ⟨w, e1, e2⟩
  · obtain ⟨x, e2⟩ := pair_of e0
    have hL : f_L_nodesThatAre r t gb (nI C) lk ln lt oo (xs (v + 1).toNatClampNeg) = (1, oo) := by unfold f_L_nodesThatAre; rw [e1]
    refine ⟨?_, hA, ⟨p4, by intros; trivial⟩, by intro _ _ q; rw [hL] at q; cases q; exact ⟨hA, p5, by intro _ _ q; rw [e2] at q; cases q; exact ⟨fun _ => ⟨fun _ => ⟨fun _ => P _ _ _ _ _ _ _ _ _ _ _ _ _ _ _ _ _ _ _ _ _ _ _ h, fun _ => trivial⟩, fun _ => P _ _ _ _ _ _ _ _ _ _ _ _ _ _ _ _ _ _ _ _ _ _ _ h⟩, fun _ => trivial⟩⟩⟩
    unfold f_L_c10
    rw [hL, e2]
    exact law_if (c := 1) (d := 1) rfl (fun q => absurd q n10) (fun _ => H _ _ _ _ _ _ _ _ _ _ _ _ _ _ _ _ _ _ _ _ _ _ _ h)
  · have hL : f_L_nodesThatAre r t gb (nI C) lk ln lt oo (xs (v + 1).toNatClampNeg) = (0, (vp_updL oo (0 : Int32).toNatClampNeg w.toInt64)) := by unfold f_L_nodesThatAre; rw [e1]
    refine ⟨?_, hA, ⟨p4, by intros; trivial⟩, by intro _ _ q; rw [hL] at q; cases q; exact ⟨hA, p5, by intro _ _ q; rw [e2] at q; cases q; exact ⟨fun _ => ⟨fun _ => ⟨fun _ => P _ _ _ _ _ _ _ _ _ _ _ _ _ _ _ _ _ _ _ _ _ _ _ h, fun _ => trivial⟩, fun _ => P _ _ _ _ _ _ _ _ _ _ _ _ _ _ _ _ _ _ _ _ _ _ _ h⟩, fun _ => trivial⟩⟩⟩
    unfold f_L_c10
    rw [hL, e2]
    exact law_if (c := 0) (d := 0) rfl (fun _ => cmp_if pk_uLs (H _ _ _ _ _ _ _ _ _ _ _ _ _ _ _ _ _ _ _ _ _ _ _ h)) (fun q => absurd rfl q)
theorem k_c13 {rcf : Int32 → Int32 → Int32 → AA → AA → AA → AA → Int32 → AA → AA → AA → AA → AA → Int32 → AA → AA → Int32 → Int32 → Int32 → Int32 → Int32 → AA → AA → AA → AA → AA → AA → AA → AA → AA → AA → AA → LA → Int32} {rcp : Int32 → Int32 → Int32 → AA → AA → AA → AA → Int32 → AA → AA → AA → AA → AA → Int32 → AA → AA → Int32 → Int32 → Int32 → Int32 → Int32 → AA → AA → AA → AA → AA → AA → AA → AA → AA → AA → AA → LA → Prop} {xs : AA} {L : Nat} {v : Int32} {C T : Nat} {r t : Int32} {gn gu gb ga lk ln lt ll lr tn tt mn mu mt md mz mi : AA} {oo : LA} (h : Rel C T r gn gu gb ga tn tt mn mu mt md mz mi) (H : RF rcf (v + 3)) (P : RP rcp (v + 3)) (hA : vp_in (v + 1) L) (hB : vp_in (v + 2) L) : f_L_c13 rcf xs v r t gn gu gb ga (nI C) lk ln lt ll lr (nI T) tn tt r (nI T) (nI C) t mn mu lr mt md mz mi lk ln lt ll oo = 1 ∧ p_L_c13 rcp xs L v r t gn gu gb ga (nI C) lk ln lt ll lr (nI T) tn tt r (nI T) (nI C) t mn mu lr mt md mz mi lk ln lt ll oo := by
  obtain ⟨hG, hS, hM, hC, hT, hK⟩ := id h
  obtain ⟨p4, p5, ag⟩ := ag_ek lk (xs (v + 1).toNatClampNeg) hC
  rcases ag with ⟨E, e1, e0⟩ | ⟨w, e1, e2⟩
  · obtain ⟨x, e2⟩ := pair_of e0
    have hL : f_L_eventKind (nI C) lk oo (xs (v + 1).toNatClampNeg) = (1, oo) := by unfold f_L_eventKind; rw [e1]
    refine ⟨?_, hA, ⟨p4, by intros; trivial⟩, by intro _ _ q; rw [hL] at q; cases q; exact ⟨hA, p5, by intro _ _ q; rw [e2] at q; cases q; exact ⟨fun _ => ⟨fun _ => ⟨fun _ => P _ _ _ _ _ _ _ _ _ _ _ _ _ _ _ _ _ _ _ _ _ _ _ h, fun _ => trivial⟩, fun _ => P _ _ _ _ _ _ _ _ _ _ _ _ _ _ _ _ _ _ _ _ _ _ _ h⟩, fun _ => trivial⟩⟩⟩
    unfold f_L_c13
    rw [hL, e2]
    exact law_if (c := 1) (d := 1) rfl (fun q => absurd q n10) (fun _ => H _ _ _ _ _ _ _ _ _ _ _ _ _ _ _ _ _ _ _ _ _ _ _ h)
  · have hL : f_L_eventKind (nI C) lk oo (xs (v + 1).toNatClampNeg) = (0, (vp_updL oo (0 : Int32).toNatClampNeg w.toInt64)) := by unfold f_L_eventKind; rw [e1]
    refine ⟨?_, hA, ⟨p4, by intros; trivial⟩, by intro _ _ q; rw [hL] at q; cases q; exact ⟨hA, p5, by intro _ _ q; rw [e2] at q; cases q; exact ⟨fun _ => ⟨fun _ => ⟨fun _ => P _ _ _ _ _ _ _ _ _ _ _ _ _ _ _ _ _ _ _ _ _ _ _ h, fun _ => trivial⟩, fun _ => P _ _ _ _ _ _ _ _ _ _ _ _ _ _ _ _ _ _ _ _ _ _ _ h⟩, fun _ => trivial⟩⟩⟩
    unfold f_L_c13
    rw [hL, e2]
    exact law_if (c := 0) (d := 0) rfl (fun _ => cmp_if pk_uLs (H _ _ _ _ _ _ _ _ _ _ _ _ _ _ _ _ _ _ _ _ _ _ _ h)) (fun q => absurd rfl q)
theorem k_c14 {rcf : Int32 → Int32 → Int32 → AA → AA → AA → AA → Int32 → AA → AA → AA → AA → AA → Int32 → AA → AA → Int32 → Int32 → Int32 → Int32 → Int32 → AA → AA → AA → AA → AA → AA → AA → AA → AA → AA → AA → LA → Int32} {rcp : Int32 → Int32 → Int32 → AA → AA → AA → AA → Int32 → AA → AA → AA → AA → AA → Int32 → AA → AA → Int32 → Int32 → Int32 → Int32 → Int32 → AA → AA → AA → AA → AA → AA → AA → AA → AA → AA → AA → LA → Prop} {xs : AA} {L : Nat} {v : Int32} {C T : Nat} {r t : Int32} {gn gu gb ga lk ln lt ll lr tn tt mn mu mt md mz mi : AA} {oo : LA} (h : Rel C T r gn gu gb ga tn tt mn mu mt md mz mi) (H : RF rcf (v + 3)) (P : RP rcp (v + 3)) (hA : vp_in (v + 1) L) (hB : vp_in (v + 2) L) : f_L_c14 rcf xs v r t gn gu gb ga (nI C) lk ln lt ll lr (nI T) tn tt r (nI T) (nI C) t mn mu lr mt md mz mi lk ln lt ll oo = 1 ∧ p_L_c14 rcp xs L v r t gn gu gb ga (nI C) lk ln lt ll lr (nI T) tn tt r (nI T) (nI C) t mn mu lr mt md mz mi lk ln lt ll oo := by
  obtain ⟨hG, hS, hM, hC, hT, hK⟩ := id h
  obtain ⟨p4, p5, ag⟩ := ag_en ln (xs (v + 1).toNatClampNeg) hC
  rcases ag with ⟨E, e1, e0⟩ | ⟨w, e1, e2⟩
  · obtain ⟨x, e2⟩ := pair_of e0
    have hL : f_L_eventNode (nI C) ln oo (xs (v + 1).toNatClampNeg) = (1, oo) := by unfold f_L_eventNode; rw [e1]
    refine ⟨?_, hA, ⟨p4, by intros; trivial⟩, by intro _ _ q; rw [hL] at q; cases q; exact ⟨hA, p5, by intro _ _ q; rw [e2] at q; cases q; exact ⟨fun _ => ⟨fun _ => ⟨fun _ => P _ _ _ _ _ _ _ _ _ _ _ _ _ _ _ _ _ _ _ _ _ _ _ h, fun _ => trivial⟩, fun _ => P _ _ _ _ _ _ _ _ _ _ _ _ _ _ _ _ _ _ _ _ _ _ _ h⟩, fun _ => trivial⟩⟩⟩
    unfold f_L_c14
    rw [hL, e2]
    exact law_if (c := 1) (d := 1) rfl (fun q => absurd q n10) (fun _ => H _ _ _ _ _ _ _ _ _ _ _ _ _ _ _ _ _ _ _ _ _ _ _ h)
  · have hL : f_L_eventNode (nI C) ln oo (xs (v + 1).toNatClampNeg) = (0, (vp_updL oo (0 : Int32).toNatClampNeg w.toInt64)) := by unfold f_L_eventNode; rw [e1]
    refine ⟨?_, hA, ⟨p4, by intros; trivial⟩, by intro _ _ q; rw [hL] at q; cases q; exact ⟨hA, p5, by intro _ _ q; rw [e2] at q; cases q; exact ⟨fun _ => ⟨fun _ => ⟨fun _ => P _ _ _ _ _ _ _ _ _ _ _ _ _ _ _ _ _ _ _ _ _ _ _ h, fun _ => trivial⟩, fun _ => P _ _ _ _ _ _ _ _ _ _ _ _ _ _ _ _ _ _ _ _ _ _ _ h⟩, fun _ => trivial⟩⟩⟩
    unfold f_L_c14
    rw [hL, e2]
    exact law_if (c := 0) (d := 0) rfl (fun _ => cmp_if pk_uLs (H _ _ _ _ _ _ _ _ _ _ _ _ _ _ _ _ _ _ _ _ _ _ _ h)) (fun q => absurd rfl q)
theorem k_c15 {rcf : Int32 → Int32 → Int32 → AA → AA → AA → AA → Int32 → AA → AA → AA → AA → AA → Int32 → AA → AA → Int32 → Int32 → Int32 → Int32 → Int32 → AA → AA → AA → AA → AA → AA → AA → AA → AA → AA → AA → LA → Int32} {rcp : Int32 → Int32 → Int32 → AA → AA → AA → AA → Int32 → AA → AA → AA → AA → AA → Int32 → AA → AA → Int32 → Int32 → Int32 → Int32 → Int32 → AA → AA → AA → AA → AA → AA → AA → AA → AA → AA → AA → LA → Prop} {xs : AA} {L : Nat} {v : Int32} {C T : Nat} {r t : Int32} {gn gu gb ga lk ln lt ll lr tn tt mn mu mt md mz mi : AA} {oo : LA} (h : Rel C T r gn gu gb ga tn tt mn mu mt md mz mi) (H : RF rcf (v + 3)) (P : RP rcp (v + 3)) (hA : vp_in (v + 1) L) (hB : vp_in (v + 2) L) : f_L_c15 rcf xs v r t gn gu gb ga (nI C) lk ln lt ll lr (nI T) tn tt r (nI T) (nI C) t mn mu lr mt md mz mi lk ln lt ll oo = 1 ∧ p_L_c15 rcp xs L v r t gn gu gb ga (nI C) lk ln lt ll lr (nI T) tn tt r (nI T) (nI C) t mn mu lr mt md mz mi lk ln lt ll oo := by
  obtain ⟨hG, hS, hM, hC, hT, hK⟩ := id h
  obtain ⟨p4, p5, ag⟩ := ag_et lt (xs (v + 1).toNatClampNeg) hC
  rcases ag with ⟨E, e1, e0⟩ | ⟨w, e1, e2⟩
  · obtain ⟨x, e2⟩ := pair_of e0
    have hL : f_L_eventTime (nI C) lt oo (xs (v + 1).toNatClampNeg) = (1, oo) := by unfold f_L_eventTime; rw [e1]
    refine ⟨?_, hA, ⟨p4, by intros; trivial⟩, by intro _ _ q; rw [hL] at q; cases q; exact ⟨hA, p5, by intro _ _ q; rw [e2] at q; cases q; exact ⟨fun _ => ⟨fun _ => ⟨fun _ => P _ _ _ _ _ _ _ _ _ _ _ _ _ _ _ _ _ _ _ _ _ _ _ h, fun _ => trivial⟩, fun _ => P _ _ _ _ _ _ _ _ _ _ _ _ _ _ _ _ _ _ _ _ _ _ _ h⟩, fun _ => trivial⟩⟩⟩
    unfold f_L_c15
    rw [hL, e2]
    exact law_if (c := 1) (d := 1) rfl (fun q => absurd q n10) (fun _ => H _ _ _ _ _ _ _ _ _ _ _ _ _ _ _ _ _ _ _ _ _ _ _ h)
  · have hL : f_L_eventTime (nI C) lt oo (xs (v + 1).toNatClampNeg) = (0, (vp_updL oo (0 : Int32).toNatClampNeg w.toInt64)) := by unfold f_L_eventTime; rw [e1]
    refine ⟨?_, hA, ⟨p4, by intros; trivial⟩, by intro _ _ q; rw [hL] at q; cases q; exact ⟨hA, p5, by intro _ _ q; rw [e2] at q; cases q; exact ⟨fun _ => ⟨fun _ => ⟨fun _ => P _ _ _ _ _ _ _ _ _ _ _ _ _ _ _ _ _ _ _ _ _ _ _ h, fun _ => trivial⟩, fun _ => P _ _ _ _ _ _ _ _ _ _ _ _ _ _ _ _ _ _ _ _ _ _ _ h⟩, fun _ => trivial⟩⟩⟩
    unfold f_L_c15
    rw [hL, e2]
    exact law_if (c := 0) (d := 0) rfl (fun _ => cmp_if pk_uLs (H _ _ _ _ _ _ _ _ _ _ _ _ _ _ _ _ _ _ _ _ _ _ _ h)) (fun q => absurd rfl q)
theorem k_c16 {rcf : Int32 → Int32 → Int32 → AA → AA → AA → AA → Int32 → AA → AA → AA → AA → AA → Int32 → AA → AA → Int32 → Int32 → Int32 → Int32 → Int32 → AA → AA → AA → AA → AA → AA → AA → AA → AA → AA → AA → LA → Int32} {rcp : Int32 → Int32 → Int32 → AA → AA → AA → AA → Int32 → AA → AA → AA → AA → AA → Int32 → AA → AA → Int32 → Int32 → Int32 → Int32 → Int32 → AA → AA → AA → AA → AA → AA → AA → AA → AA → AA → AA → LA → Prop} {xs : AA} {L : Nat} {v : Int32} {C T : Nat} {r t : Int32} {gn gu gb ga lk ln lt ll lr tn tt mn mu mt md mz mi : AA} {oo : LA} (h : Rel C T r gn gu gb ga tn tt mn mu mt md mz mi) (H : RF rcf (v + 3)) (P : RP rcp (v + 3)) (hA : vp_in (v + 1) L) (hB : vp_in (v + 2) L) : f_L_c16 rcf xs v r t gn gu gb ga (nI C) lk ln lt ll lr (nI T) tn tt r (nI T) (nI C) t mn mu lr mt md mz mi lk ln lt ll oo = 1 ∧ p_L_c16 rcp xs L v r t gn gu gb ga (nI C) lk ln lt ll lr (nI T) tn tt r (nI T) (nI C) t mn mu lr mt md mz mi lk ln lt ll oo := by
  obtain ⟨hG, hS, hM, hC, hT, hK⟩ := id h
  obtain ⟨p4, p5, ag⟩ := ag_el ll (xs (v + 1).toNatClampNeg) hC
  rcases ag with ⟨E, e1, e0⟩ | ⟨w, e1, e2⟩
  · obtain ⟨x, e2⟩ := pair_of e0
    have hL : f_L_eventLength (nI C) ll oo (xs (v + 1).toNatClampNeg) = (1, oo) := by unfold f_L_eventLength; rw [e1]
    refine ⟨?_, hA, ⟨p4, by intros; trivial⟩, by intro _ _ q; rw [hL] at q; cases q; exact ⟨hA, p5, by intro _ _ q; rw [e2] at q; cases q; exact ⟨fun _ => ⟨fun _ => ⟨fun _ => P _ _ _ _ _ _ _ _ _ _ _ _ _ _ _ _ _ _ _ _ _ _ _ h, fun _ => trivial⟩, fun _ => P _ _ _ _ _ _ _ _ _ _ _ _ _ _ _ _ _ _ _ _ _ _ _ h⟩, fun _ => trivial⟩⟩⟩
    unfold f_L_c16
    rw [hL, e2]
    exact law_if (c := 1) (d := 1) rfl (fun q => absurd q n10) (fun _ => H _ _ _ _ _ _ _ _ _ _ _ _ _ _ _ _ _ _ _ _ _ _ _ h)
  · have hL : f_L_eventLength (nI C) ll oo (xs (v + 1).toNatClampNeg) = (0, (vp_updL oo (0 : Int32).toNatClampNeg w.toInt64)) := by unfold f_L_eventLength; rw [e1]
    refine ⟨?_, hA, ⟨p4, by intros; trivial⟩, by intro _ _ q; rw [hL] at q; cases q; exact ⟨hA, p5, by intro _ _ q; rw [e2] at q; cases q; exact ⟨fun _ => ⟨fun _ => ⟨fun _ => P _ _ _ _ _ _ _ _ _ _ _ _ _ _ _ _ _ _ _ _ _ _ _ h, fun _ => trivial⟩, fun _ => P _ _ _ _ _ _ _ _ _ _ _ _ _ _ _ _ _ _ _ _ _ _ _ h⟩, fun _ => trivial⟩⟩⟩
    unfold f_L_c16
    rw [hL, e2]
    exact law_if (c := 0) (d := 0) rfl (fun _ => cmp_if pk_uLs (H _ _ _ _ _ _ _ _ _ _ _ _ _ _ _ _ _ _ _ _ _ _ _ h)) (fun q => absurd rfl q)
theorem k_c18 {rcf : Int32 → Int32 → Int32 → AA → AA → AA → AA → Int32 → AA → AA → AA → AA → AA → Int32 → AA → AA → Int32 → Int32 → Int32 → Int32 → Int32 → AA → AA → AA → AA → AA → AA → AA → AA → AA → AA → AA → LA → Int32} {rcp : Int32 → Int32 → Int32 → AA → AA → AA → AA → Int32 → AA → AA → AA → AA → AA → Int32 → AA → AA → Int32 → Int32 → Int32 → Int32 → Int32 → AA → AA → AA → AA → AA → AA → AA → AA → AA → AA → AA → LA → Prop} {xs : AA} {L : Nat} {v : Int32} {C T : Nat} {r t : Int32} {gn gu gb ga lk ln lt ll lr tn tt mn mu mt md mz mi : AA} {oo : LA} (h : Rel C T r gn gu gb ga tn tt mn mu mt md mz mi) (H : RF rcf (v + 3)) (P : RP rcp (v + 3)) (hA : vp_in (v + 1) L) (hB : vp_in (v + 2) L) : f_L_c18 rcf xs v r t gn gu gb ga (nI C) lk ln lt ll lr (nI T) tn tt r (nI T) (nI C) t mn mu lr mt md mz mi lk ln lt ll oo = 1 ∧ p_L_c18 rcp xs L v r t gn gu gb ga (nI C) lk ln lt ll lr (nI T) tn tt r (nI T) (nI C) t mn mu lr mt md mz mi lk ln lt ll oo := by
  obtain ⟨hG, hS, hM, hC, hT, hK⟩ := id h
  obtain ⟨p4, p5, ag⟩ := ag_tof hK (xs (v + 1).toNatClampNeg)
  rcases ag with ⟨E, e1, e0⟩ | ⟨w, e1, e2⟩
  · obtain ⟨x, e2⟩ := pair_of e0
    have hL : f_L_ticketOf tn oo (xs (v + 1).toNatClampNeg) = (1, oo) := by unfold f_L_ticketOf; rw [e1]
    refine ⟨?_, hA, ⟨p4, by intros; trivial⟩, by intro _ _ q; rw [hL] at q; cases q; exact ⟨hA, p5, by intro _ _ q; rw [e2] at q; cases q; exact ⟨fun _ => ⟨fun _ => ⟨fun _ => P _ _ _ _ _ _ _ _ _ _ _ _ _ _ _ _ _ _ _ _ _ _ _ h, fun _ => trivial⟩, fun _ => P _ _ _ _ _ _ _ _ _ _ _ _ _ _ _ _ _ _ _ _ _ _ _ h⟩, fun _ => trivial⟩⟩⟩
    unfold f_L_c18
    rw [hL, e2]
    exact law_if (c := 1) (d := 1) rfl (fun q => absurd q n10) (fun _ => H _ _ _ _ _ _ _ _ _ _ _ _ _ _ _ _ _ _ _ _ _ _ _ h)
  · have hL : f_L_ticketOf tn oo (xs (v + 1).toNatClampNeg) = (0, (vp_updL oo (0 : Int32).toNatClampNeg w.toInt64)) := by unfold f_L_ticketOf; rw [e1]
    refine ⟨?_, hA, ⟨p4, by intros; trivial⟩, by intro _ _ q; rw [hL] at q; cases q; exact ⟨hA, p5, by intro _ _ q; rw [e2] at q; cases q; exact ⟨fun _ => ⟨fun _ => ⟨fun _ => P _ _ _ _ _ _ _ _ _ _ _ _ _ _ _ _ _ _ _ _ _ _ _ h, fun _ => trivial⟩, fun _ => P _ _ _ _ _ _ _ _ _ _ _ _ _ _ _ _ _ _ _ _ _ _ _ h⟩, fun _ => trivial⟩⟩⟩
    unfold f_L_c18
    rw [hL, e2]
    exact law_if (c := 0) (d := 0) rfl (fun _ => cmp_if pk_uLs (H _ _ _ _ _ _ _ _ _ _ _ _ _ _ _ _ _ _ _ _ _ _ _ h)) (fun q => absurd rfl q)
theorem k_c22 {rcf : Int32 → Int32 → Int32 → AA → AA → AA → AA → Int32 → AA → AA → AA → AA → AA → Int32 → AA → AA → Int32 → Int32 → Int32 → Int32 → Int32 → AA → AA → AA → AA → AA → AA → AA → AA → AA → AA → AA → LA → Int32} {rcp : Int32 → Int32 → Int32 → AA → AA → AA → AA → Int32 → AA → AA → AA → AA → AA → Int32 → AA → AA → Int32 → Int32 → Int32 → Int32 → Int32 → AA → AA → AA → AA → AA → AA → AA → AA → AA → AA → AA → LA → Prop} {xs : AA} {L : Nat} {v : Int32} {C T : Nat} {r t : Int32} {gn gu gb ga lk ln lt ll lr tn tt mn mu mt md mz mi : AA} {oo : LA} (h : Rel C T r gn gu gb ga tn tt mn mu mt md mz mi) (H : RF rcf (v + 3)) (P : RP rcp (v + 3)) (hA : vp_in (v + 1) L) (hB : vp_in (v + 2) L) : f_L_c22 rcf xs v r t gn gu gb ga (nI C) lk ln lt ll lr (nI T) tn tt r (nI T) (nI C) t mn mu lr mt md mz mi lk ln lt ll oo = 1 ∧ p_L_c22 rcp xs L v r t gn gu gb ga (nI C) lk ln lt ll lr (nI T) tn tt r (nI T) (nI C) t mn mu lr mt md mz mi lk ln lt ll oo := by
  obtain ⟨hG, hS, hM, hC, hT, hK⟩ := id h
  obtain ⟨p4, p5, ag⟩ := ag_plausible hG hS hM (xs (v + 1).toNatClampNeg)
  rcases ag with ⟨E, e1, e0⟩ | ⟨w, e1, e2⟩
  · obtain ⟨x, e2⟩ := pair_of e0
    have hL : f_L_isPlausible r gu oo (xs (v + 1).toNatClampNeg) = (1, oo) := by unfold f_L_isPlausible; rw [e1]
    refine ⟨?_, hA, ⟨p4, by intros; exact ⟨⟨fun _ => trivial, fun _ => trivial⟩, fun _ _ => trivial⟩⟩, by intro _ _ q; rw [hL] at q; cases q; exact ⟨hA, p5, by intro _ _ q; rw [e2] at q; cases q; exact ⟨fun _ => ⟨fun _ => ⟨⟨fun _ => trivial, fun _ => trivial⟩, fun _ _ => ⟨fun _ => P _ _ _ _ _ _ _ _ _ _ _ _ _ _ _ _ _ _ _ _ _ _ _ h, fun _ => trivial⟩⟩, fun _ => P _ _ _ _ _ _ _ _ _ _ _ _ _ _ _ _ _ _ _ _ _ _ _ h⟩, fun _ => trivial⟩⟩⟩
    unfold f_L_c22
    rw [hL, e2]
    exact law_if (c := 1) (d := 1) rfl (fun q => absurd q n10) (fun _ => H _ _ _ _ _ _ _ _ _ _ _ _ _ _ _ _ _ _ _ _ _ _ _ h)
  · have hL : f_L_isPlausible r gu oo (xs (v + 1).toNatClampNeg) = (0, (vp_updL oo (0 : Int32).toNatClampNeg (if w = 0 then (0 : Int64) else (1 : Int64)))) := by unfold f_L_isPlausible; rw [e1]
    refine ⟨?_, hA, ⟨p4, by intros; exact ⟨⟨fun _ => trivial, fun _ => trivial⟩, fun _ _ => trivial⟩⟩, by intro _ _ q; rw [hL] at q; cases q; exact ⟨hA, p5, by intro _ _ q; rw [e2] at q; cases q; exact ⟨fun _ => ⟨fun _ => ⟨⟨fun _ => trivial, fun _ => trivial⟩, fun _ _ => ⟨fun _ => P _ _ _ _ _ _ _ _ _ _ _ _ _ _ _ _ _ _ _ _ _ _ _ h, fun _ => trivial⟩⟩, fun _ => P _ _ _ _ _ _ _ _ _ _ _ _ _ _ _ _ _ _ _ _ _ _ _ h⟩, fun _ => trivial⟩⟩⟩
    unfold f_L_c22
    rw [hL, e2]
    exact law_if (c := 0) (d := 0) rfl (fun _ => cmp_if pk_uLs (H _ _ _ _ _ _ _ _ _ _ _ _ _ _ _ _ _ _ _ _ _ _ _ h)) (fun q => absurd rfl q)
theorem k_c24 {rcf : Int32 → Int32 → Int32 → AA → AA → AA → AA → Int32 → AA → AA → AA → AA → AA → Int32 → AA → AA → Int32 → Int32 → Int32 → Int32 → Int32 → AA → AA → AA → AA → AA → AA → AA → AA → AA → AA → AA → LA → Int32} {rcp : Int32 → Int32 → Int32 → AA → AA → AA → AA → Int32 → AA → AA → AA → AA → AA → Int32 → AA → AA → Int32 → Int32 → Int32 → Int32 → Int32 → AA → AA → AA → AA → AA → AA → AA → AA → AA → AA → AA → LA → Prop} {xs : AA} {L : Nat} {v : Int32} {C T : Nat} {r t : Int32} {gn gu gb ga lk ln lt ll lr tn tt mn mu mt md mz mi : AA} {oo : LA} (h : Rel C T r gn gu gb ga tn tt mn mu mt md mz mi) (H : RF rcf (v + 3)) (P : RP rcp (v + 3)) (hA : vp_in (v + 1) L) (hB : vp_in (v + 2) L) : f_L_c24 rcf xs v r t gn gu gb ga (nI C) lk ln lt ll lr (nI T) tn tt r (nI T) (nI C) t mn mu lr mt md mz mi lk ln lt ll oo = 1 ∧ p_L_c24 rcp xs L v r t gn gu gb ga (nI C) lk ln lt ll lr (nI T) tn tt r (nI T) (nI C) t mn mu lr mt md mz mi lk ln lt ll oo := by
  obtain ⟨hG, hS, hM, hC, hT, hK⟩ := id h
  obtain ⟨p4, p5, ag⟩ := ag_cause hG hS hM (xs (v + 1).toNatClampNeg)
  rcases ag with ⟨E, e1, e0⟩ | ⟨w, e1, e2⟩
  · obtain ⟨x, e2⟩ := pair_of e0
    have hL : f_L_cause r gu gb ga oo (xs (v + 1).toNatClampNeg) = (1, oo) := by unfold f_L_cause; rw [e1]
    refine ⟨?_, hA, ⟨p4, by intros; trivial⟩, by intro _ _ q; rw [hL] at q; cases q; exact ⟨hA, p5, by intro _ _ q; rw [e2] at q; cases q; exact ⟨fun _ => ⟨fun _ => ⟨fun _ => P _ _ _ _ _ _ _ _ _ _ _ _ _ _ _ _ _ _ _ _ _ _ _ h, fun _ => trivial⟩, fun _ => P _ _ _ _ _ _ _ _ _ _ _ _ _ _ _ _ _ _ _ _ _ _ _ h⟩, fun _ => trivial⟩⟩⟩
    unfold f_L_c24
    rw [hL, e2]
    exact law_if (c := 1) (d := 1) rfl (fun q => absurd q n10) (fun _ => H _ _ _ _ _ _ _ _ _ _ _ _ _ _ _ _ _ _ _ _ _ _ _ h)
  · have hL : f_L_cause r gu gb ga oo (xs (v + 1).toNatClampNeg) = (0, (vp_updL oo (0 : Int32).toNatClampNeg w.toInt64)) := by unfold f_L_cause; rw [e1]
    refine ⟨?_, hA, ⟨p4, by intros; trivial⟩, by intro _ _ q; rw [hL] at q; cases q; exact ⟨hA, p5, by intro _ _ q; rw [e2] at q; cases q; exact ⟨fun _ => ⟨fun _ => ⟨fun _ => P _ _ _ _ _ _ _ _ _ _ _ _ _ _ _ _ _ _ _ _ _ _ _ h, fun _ => trivial⟩, fun _ => P _ _ _ _ _ _ _ _ _ _ _ _ _ _ _ _ _ _ _ _ _ _ _ h⟩, fun _ => trivial⟩⟩⟩
    unfold f_L_c24
    rw [hL, e2]
    exact law_if (c := 0) (d := 0) rfl (fun _ => cmp_if pk_uLs (H _ _ _ _ _ _ _ _ _ _ _ _ _ _ _ _ _ _ _ _ _ _ _ h)) (fun q => absurd rfl q)
theorem k_c25 {rcf : Int32 → Int32 → Int32 → AA → AA → AA → AA → Int32 → AA → AA → AA → AA → AA → Int32 → AA → AA → Int32 → Int32 → Int32 → Int32 → Int32 → AA → AA → AA → AA → AA → AA → AA → AA → AA → AA → AA → LA → Int32} {rcp : Int32 → Int32 → Int32 → AA → AA → AA → AA → Int32 → AA → AA → AA → AA → AA → Int32 → AA → AA → Int32 → Int32 → Int32 → Int32 → Int32 → AA → AA → AA → AA → AA → AA → AA → AA → AA → AA → AA → LA → Prop} {xs : AA} {L : Nat} {v : Int32} {C T : Nat} {r t : Int32} {gn gu gb ga lk ln lt ll lr tn tt mn mu mt md mz mi : AA} {oo : LA} (h : Rel C T r gn gu gb ga tn tt mn mu mt md mz mi) (H : RF rcf (v + 3)) (P : RP rcp (v + 3)) (hA : vp_in (v + 1) L) (hB : vp_in (v + 2) L) : f_L_c25 rcf xs v r t gn gu gb ga (nI C) lk ln lt ll lr (nI T) tn tt r (nI T) (nI C) t mn mu lr mt md mz mi lk ln lt ll oo = 1 ∧ p_L_c25 rcp xs L v r t gn gu gb ga (nI C) lk ln lt ll lr (nI T) tn tt r (nI T) (nI C) t mn mu lr mt md mz mi lk ln lt ll oo := by
  obtain ⟨hG, hS, hM, hC, hT, hK⟩ := id h
  obtain ⟨p4, p5, ag⟩ := ag_try hG hS hM (xs (v + 1).toNatClampNeg)
  rcases ag with ⟨E, e1, e0⟩ | ⟨w, e1, e2⟩
  · obtain ⟨x, e2⟩ := pair_of e0
    have hL : f_L_causeByTrying r gu gb oo (xs (v + 1).toNatClampNeg) = (1, oo) := by unfold f_L_causeByTrying; rw [e1]
    refine ⟨?_, hA, ⟨p4, by intros; trivial⟩, by intro _ _ q; rw [hL] at q; cases q; exact ⟨hA, p5, by intro _ _ q; rw [e2] at q; cases q; exact ⟨fun _ => ⟨fun _ => ⟨fun _ => P _ _ _ _ _ _ _ _ _ _ _ _ _ _ _ _ _ _ _ _ _ _ _ h, fun _ => trivial⟩, fun _ => P _ _ _ _ _ _ _ _ _ _ _ _ _ _ _ _ _ _ _ _ _ _ _ h⟩, fun _ => trivial⟩⟩⟩
    unfold f_L_c25
    rw [hL, e2]
    exact law_if (c := 1) (d := 1) rfl (fun q => absurd q n10) (fun _ => H _ _ _ _ _ _ _ _ _ _ _ _ _ _ _ _ _ _ _ _ _ _ _ h)
  · have hL : f_L_causeByTrying r gu gb oo (xs (v + 1).toNatClampNeg) = (0, (vp_updL oo (0 : Int32).toNatClampNeg w.toInt64)) := by unfold f_L_causeByTrying; rw [e1]
    refine ⟨?_, hA, ⟨p4, by intros; trivial⟩, by intro _ _ q; rw [hL] at q; cases q; exact ⟨hA, p5, by intro _ _ q; rw [e2] at q; cases q; exact ⟨fun _ => ⟨fun _ => ⟨fun _ => P _ _ _ _ _ _ _ _ _ _ _ _ _ _ _ _ _ _ _ _ _ _ _ h, fun _ => trivial⟩, fun _ => P _ _ _ _ _ _ _ _ _ _ _ _ _ _ _ _ _ _ _ _ _ _ _ h⟩, fun _ => trivial⟩⟩⟩
    unfold f_L_c25
    rw [hL, e2]
    exact law_if (c := 0) (d := 0) rfl (fun _ => cmp_if pk_uLs (H _ _ _ _ _ _ _ _ _ _ _ _ _ _ _ _ _ _ _ _ _ _ _ h)) (fun q => absurd rfl q)
theorem k_c27 {rcf : Int32 → Int32 → Int32 → AA → AA → AA → AA → Int32 → AA → AA → AA → AA → AA → Int32 → AA → AA → Int32 → Int32 → Int32 → Int32 → Int32 → AA → AA → AA → AA → AA → AA → AA → AA → AA → AA → AA → LA → Int32} {rcp : Int32 → Int32 → Int32 → AA → AA → AA → AA → Int32 → AA → AA → AA → AA → AA → Int32 → AA → AA → Int32 → Int32 → Int32 → Int32 → Int32 → AA → AA → AA → AA → AA → AA → AA → AA → AA → AA → AA → LA → Prop} {xs : AA} {L : Nat} {v : Int32} {C T : Nat} {r t : Int32} {gn gu gb ga lk ln lt ll lr tn tt mn mu mt md mz mi : AA} {oo : LA} (h : Rel C T r gn gu gb ga tn tt mn mu mt md mz mi) (H : RF rcf (v + 3)) (P : RP rcp (v + 3)) (hA : vp_in (v + 1) L) (hB : vp_in (v + 2) L) : f_L_c27 rcf xs v r t gn gu gb ga (nI C) lk ln lt ll lr (nI T) tn tt r (nI T) (nI C) t mn mu lr mt md mz mi lk ln lt ll oo = 1 ∧ p_L_c27 rcp xs L v r t gn gu gb ga (nI C) lk ln lt ll lr (nI T) tn tt r (nI T) (nI C) t mn mu lr mt md mz mi lk ln lt ll oo := by
  obtain ⟨hG, hS, hM, hC, hT, hK⟩ := id h
  obtain ⟨p4, p5, ag⟩ := ag_greedy hG hS hM (xs (v + 1).toNatClampNeg)
  rcases ag with ⟨E, e1, e0⟩ | ⟨w, e1, e2⟩
  · obtain ⟨x, e2⟩ := pair_of e0
    have hL : f_L_greedyCause r gu ga oo (xs (v + 1).toNatClampNeg) = (1, oo) := by unfold f_L_greedyCause; rw [e1]
    refine ⟨?_, hA, ⟨p4, by intros; trivial⟩, by intro _ _ q; rw [hL] at q; cases q; exact ⟨hA, p5, by intro _ _ q; rw [e2] at q; cases q; exact ⟨fun _ => ⟨fun _ => ⟨fun _ => P _ _ _ _ _ _ _ _ _ _ _ _ _ _ _ _ _ _ _ _ _ _ _ h, fun _ => trivial⟩, fun _ => P _ _ _ _ _ _ _ _ _ _ _ _ _ _ _ _ _ _ _ _ _ _ _ h⟩, fun _ => trivial⟩⟩⟩
    unfold f_L_c27
    rw [hL, e2]
    exact law_if (c := 1) (d := 1) rfl (fun q => absurd q n10) (fun _ => H _ _ _ _ _ _ _ _ _ _ _ _ _ _ _ _ _ _ _ _ _ _ _ h)
  · have hL : f_L_greedyCause r gu ga oo (xs (v + 1).toNatClampNeg) = (0, (vp_updL oo (0 : Int32).toNatClampNeg w.toInt64)) := by unfold f_L_greedyCause; rw [e1]
    refine ⟨?_, hA, ⟨p4, by intros; trivial⟩, by intro _ _ q; rw [hL] at q; cases q; exact ⟨hA, p5, by intro _ _ q; rw [e2] at q; cases q; exact ⟨fun _ => ⟨fun _ => ⟨fun _ => P _ _ _ _ _ _ _ _ _ _ _ _ _ _ _ _ _ _ _ _ _ _ _ h, fun _ => trivial⟩, fun _ => P _ _ _ _ _ _ _ _ _ _ _ _ _ _ _ _ _ _ _ _ _ _ _ h⟩, fun _ => trivial⟩⟩⟩
    unfold f_L_c27
    rw [hL, e2]
    exact law_if (c := 0) (d := 0) rfl (fun _ => cmp_if pk_uLs (H _ _ _ _ _ _ _ _ _ _ _ _ _ _ _ _ _ _ _ _ _ _ _ h)) (fun q => absurd rfl q)
theorem k_c28 {rcf : Int32 → Int32 → Int32 → AA → AA → AA → AA → Int32 → AA → AA → AA → AA → AA → Int32 → AA → AA → Int32 → Int32 → Int32 → Int32 → Int32 → AA → AA → AA → AA → AA → AA → AA → AA → AA → AA → AA → LA → Int32} {rcp : Int32 → Int32 → Int32 → AA → AA → AA → AA → Int32 → AA → AA → AA → AA → AA → Int32 → AA → AA → Int32 → Int32 → Int32 → Int32 → Int32 → AA → AA → AA → AA → AA → AA → AA → AA → AA → AA → AA → LA → Prop} {xs : AA} {L : Nat} {v : Int32} {C T : Nat} {r t : Int32} {gn gu gb ga lk ln lt ll lr tn tt mn mu mt md mz mi : AA} {oo : LA} (h : Rel C T r gn gu gb ga tn tt mn mu mt md mz mi) (H : RF rcf (v + 3)) (P : RP rcp (v + 3)) (hA : vp_in (v + 1) L) (hB : vp_in (v + 2) L) : f_L_c28 rcf xs v r t gn gu gb ga (nI C) lk ln lt ll lr (nI T) tn tt r (nI T) (nI C) t mn mu lr mt md mz mi lk ln lt ll oo = 1 ∧ p_L_c28 rcp xs L v r t gn gu gb ga (nI C) lk ln lt ll lr (nI T) tn tt r (nI T) (nI C) t mn mu lr mt md mz mi lk ln lt ll oo := by
  obtain ⟨hG, hS, hM, hC, hT, hK⟩ := id h
  obtain ⟨p4, p5, ag⟩ := ag_causeOf hG hS hM (xs (v + 1).toNatClampNeg)
  rcases ag with ⟨E, e1, e0⟩ | ⟨w, e1, e2⟩
  · obtain ⟨x, e2⟩ := pair_of e0
    have hL : f_L_causeOf r gu gb ga oo (xs (v + 1).toNatClampNeg) = (1, oo) := by unfold f_L_causeOf; rw [e1]
    refine ⟨?_, hA, ⟨p4, by intros; trivial⟩, by intro _ _ q; rw [hL] at q; cases q; exact ⟨hA, p5, by intro _ _ q; rw [e2] at q; cases q; exact ⟨fun _ => ⟨fun _ => ⟨fun _ => P _ _ _ _ _ _ _ _ _ _ _ _ _ _ _ _ _ _ _ _ _ _ _ h, fun _ => trivial⟩, fun _ => P _ _ _ _ _ _ _ _ _ _ _ _ _ _ _ _ _ _ _ _ _ _ _ h⟩, fun _ => trivial⟩⟩⟩
    unfold f_L_c28
    rw [hL, e2]
    exact law_if (c := 1) (d := 1) rfl (fun q => absurd q n10) (fun _ => H _ _ _ _ _ _ _ _ _ _ _ _ _ _ _ _ _ _ _ _ _ _ _ h)
  · have hL : f_L_causeOf r gu gb ga oo (xs (v + 1).toNatClampNeg) = (0, (vp_updL oo (0 : Int32).toNatClampNeg w.toInt64)) := by unfold f_L_causeOf; rw [e1]
    refine ⟨?_, hA, ⟨p4, by intros; trivial⟩, by intro _ _ q; rw [hL] at q; cases q; exact ⟨hA, p5, by intro _ _ q; rw [e2] at q; cases q; exact ⟨fun _ => ⟨fun _ => ⟨fun _ => P _ _ _ _ _ _ _ _ _ _ _ _ _ _ _ _ _ _ _ _ _ _ _ h, fun _ => trivial⟩, fun _ => P _ _ _ _ _ _ _ _ _ _ _ _ _ _ _ _ _ _ _ _ _ _ _ h⟩, fun _ => trivial⟩⟩⟩
    unfold f_L_c28
    rw [hL, e2]
    exact law_if (c := 0) (d := 0) rfl (fun _ => cmp_if pk_uLs (H _ _ _ _ _ _ _ _ _ _ _ _ _ _ _ _ _ _ _ _ _ _ _ h)) (fun q => absurd rfl q)
