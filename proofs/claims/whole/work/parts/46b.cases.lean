theorem k_c6 {rcf : Int32 → Int32 → Int32 → AA → AA → AA → AA → Int32 → AA → AA → AA → AA → AA → Int32 → AA → AA → Int32 → Int32 → Int32 → Int32 → Int32 → AA → AA → AA → AA → AA → AA → AA → AA → AA → AA → AA → LA → Int32} {rcp : Int32 → Int32 → Int32 → AA → AA → AA → AA → Int32 → AA → AA → AA → AA → AA → Int32 → AA → AA → Int32 → Int32 → Int32 → Int32 → Int32 → AA → AA → AA → AA → AA → AA → AA → AA → AA → AA → AA → LA → Prop} {v : Int32} {C T : Nat} {r t : Int32} {gn gu gb ga lk ln lt ll lr tn tt mn mu mt md mz mi : AA} {oo : LA} (h : Rel C T r gn gu gb ga tn tt mn mu mt md mz mi) (H : RF rcf (v + 3)) (P : RP rcp (v + 3)) : f_L_c6 rcf v r t gn gu gb ga (nI C) lk ln lt ll lr (nI T) tn tt r (nI T) (nI C) t mn mu lr mt md mz mi lk ln lt ll oo = 1 ∧ p_L_c6 rcp v r t gn gu gb ga (nI C) lk ln lt ll lr (nI T) tn tt r (nI T) (nI C) t mn mu lr mt md mz mi lk ln lt ll oo := by
  obtain ⟨hG, hS, hM, hC, hT, hK⟩ := id h
  unfold f_L_c6 p_L_c6
  refine ⟨eq_if rfl (H _ _ _ _ _ _ _ _ _ _ _ _ _ _ _ _ _ _ _ _ _ _ _ h), fun a b q => ?_⟩
  unfold f_X5_now at q
  cases q
  exact ⟨fun _ => P _ _ _ _ _ _ _ _ _ _ _ _ _ _ _ _ _ _ _ _ _ _ _ h, fun _ => trivial⟩
theorem k_c12 {rcf : Int32 → Int32 → Int32 → AA → AA → AA → AA → Int32 → AA → AA → AA → AA → AA → Int32 → AA → AA → Int32 → Int32 → Int32 → Int32 → Int32 → AA → AA → AA → AA → AA → AA → AA → AA → AA → AA → AA → LA → Int32} {rcp : Int32 → Int32 → Int32 → AA → AA → AA → AA → Int32 → AA → AA → AA → AA → AA → Int32 → AA → AA → Int32 → Int32 → Int32 → Int32 → Int32 → AA → AA → AA → AA → AA → AA → AA → AA → AA → AA → AA → LA → Prop} {v : Int32} {C T : Nat} {r t : Int32} {gn gu gb ga lk ln lt ll lr tn tt mn mu mt md mz mi : AA} {oo : LA} (h : Rel C T r gn gu gb ga tn tt mn mu mt md mz mi) (H : RF rcf (v + 3)) (P : RP rcp (v + 3)) : f_L_c12 rcf v r t gn gu gb ga (nI C) lk ln lt ll lr (nI T) tn tt r (nI T) (nI C) t mn mu lr mt md mz mi lk ln lt ll oo = 1 ∧ p_L_c12 rcp v r t gn gu gb ga (nI C) lk ln lt ll lr (nI T) tn tt r (nI T) (nI C) t mn mu lr mt md mz mi lk ln lt ll oo := by
  obtain ⟨hG, hS, hM, hC, hT, hK⟩ := id h
  unfold f_L_c12 p_L_c12
  refine ⟨eq_if rfl (H _ _ _ _ _ _ _ _ _ _ _ _ _ _ _ _ _ _ _ _ _ _ _ h), fun a b q => ?_⟩
  unfold f_X5_events at q
  cases q
  exact ⟨fun _ => P _ _ _ _ _ _ _ _ _ _ _ _ _ _ _ _ _ _ _ _ _ _ _ h, fun _ => trivial⟩
theorem k_c17 {rcf : Int32 → Int32 → Int32 → AA → AA → AA → AA → Int32 → AA → AA → AA → AA → AA → Int32 → AA → AA → Int32 → Int32 → Int32 → Int32 → Int32 → AA → AA → AA → AA → AA → AA → AA → AA → AA → AA → AA → LA → Int32} {rcp : Int32 → Int32 → Int32 → AA → AA → AA → AA → Int32 → AA → AA → AA → AA → AA → Int32 → AA → AA → Int32 → Int32 → Int32 → Int32 → Int32 → AA → AA → AA → AA → AA → AA → AA → AA → AA → AA → AA → LA → Prop} {v : Int32} {C T : Nat} {r t : Int32} {gn gu gb ga lk ln lt ll lr tn tt mn mu mt md mz mi : AA} {oo : LA} (h : Rel C T r gn gu gb ga tn tt mn mu mt md mz mi) (H : RF rcf (v + 3)) (P : RP rcp (v + 3)) : f_L_c17 rcf v r t gn gu gb ga (nI C) lk ln lt ll lr (nI T) tn tt r (nI T) (nI C) t mn mu lr mt md mz mi lk ln lt ll oo = 1 ∧ p_L_c17 rcp v r t gn gu gb ga (nI C) lk ln lt ll lr (nI T) tn tt r (nI T) (nI C) t mn mu lr mt md mz mi lk ln lt ll oo := by
  obtain ⟨hG, hS, hM, hC, hT, hK⟩ := id h
  unfold f_L_c17 p_L_c17
  obtain ⟨p4, p5, e⟩ := ag_open (by omega) hK
  refine ⟨?_, p4, p5, fun a b q => ?_⟩
  · rw [e]
    exact eq_if rfl (H _ _ _ _ _ _ _ _ _ _ _ _ _ _ _ _ _ _ _ _ _ _ _ h)
  · rw [e] at q
    cases q
    exact ⟨fun _ => P _ _ _ _ _ _ _ _ _ _ _ _ _ _ _ _ _ _ _ _ _ _ _ h, fun _ => trivial⟩
theorem k_c19 {rcf : Int32 → Int32 → Int32 → AA → AA → AA → AA → Int32 → AA → AA → AA → AA → AA → Int32 → AA → AA → Int32 → Int32 → Int32 → Int32 → Int32 → AA → AA → AA → AA → AA → AA → AA → AA → AA → AA → AA → LA → Int32} {rcp : Int32 → Int32 → Int32 → AA → AA → AA → AA → Int32 → AA → AA → AA → AA → AA → Int32 → AA → AA → Int32 → Int32 → Int32 → Int32 → Int32 → AA → AA → AA → AA → AA → AA → AA → AA → AA → AA → AA → LA → Prop} {xs : AA} {L : Nat} {v : Int32} {C T : Nat} {r t : Int32} {gn gu gb ga lk ln lt ll lr tn tt mn mu mt md mz mi : AA} {oo : LA} (h : Rel C T r gn gu gb ga tn tt mn mu mt md mz mi) (H : RF rcf (v + 3)) (P : RP rcp (v + 3)) (hA : vp_in (v + 1) L) (hB : vp_in (v + 2) L) : f_L_c19 rcf xs v r t gn gu gb ga (nI C) lk ln lt ll lr (nI T) tn tt r (nI T) (nI C) t mn mu lr mt md mz mi lk ln lt ll oo = 1 ∧ p_L_c19 rcp xs L v r t gn gu gb ga (nI C) lk ln lt ll lr (nI T) tn tt r (nI T) (nI C) t mn mu lr mt md mz mi lk ln lt ll oo := by
  obtain ⟨hG, hS, hM, hC, hT, hK⟩ := id h
  unfold f_L_c19 p_L_c19
  obtain ⟨p4, p5, e⟩ := ag_tstate (by omega) hK (xs (v + 1).toNatClampNeg)
  refine ⟨?_, hA, p4, hA, p5, fun a b q => ?_⟩
  · rw [e]
    exact eq_if rfl (H _ _ _ _ _ _ _ _ _ _ _ _ _ _ _ _ _ _ _ _ _ _ _ h)
  · rw [e] at q
    cases q
    exact ⟨fun _ => P _ _ _ _ _ _ _ _ _ _ _ _ _ _ _ _ _ _ _ _ _ _ _ h, fun _ => trivial⟩
theorem k_c20 {rcf : Int32 → Int32 → Int32 → AA → AA → AA → AA → Int32 → AA → AA → AA → AA → AA → Int32 → AA → AA → Int32 → Int32 → Int32 → Int32 → Int32 → AA → AA → AA → AA → AA → AA → AA → AA → AA → AA → AA → LA → Int32} {rcp : Int32 → Int32 → Int32 → AA → AA → AA → AA → Int32 → AA → AA → AA → AA → AA → Int32 → AA → AA → Int32 → Int32 → Int32 → Int32 → Int32 → AA → AA → AA → AA → AA → AA → AA → AA → AA → AA → AA → LA → Prop} {xs : AA} {L : Nat} {v : Int32} {C T : Nat} {r t : Int32} {gn gu gb ga lk ln lt ll lr tn tt mn mu mt md mz mi : AA} {oo : LA} (h : Rel C T r gn gu gb ga tn tt mn mu mt md mz mi) (H : RF rcf (v + 3)) (P : RP rcp (v + 3)) (hA : vp_in (v + 1) L) (hB : vp_in (v + 2) L) : f_L_c20 rcf xs v r t gn gu gb ga (nI C) lk ln lt ll lr (nI T) tn tt r (nI T) (nI C) t mn mu lr mt md mz mi lk ln lt ll oo = 1 ∧ p_L_c20 rcp xs L v r t gn gu gb ga (nI C) lk ln lt ll lr (nI T) tn tt r (nI T) (nI C) t mn mu lr mt md mz mi lk ln lt ll oo := by
  obtain ⟨hG, hS, hM, hC, hT, hK⟩ := id h
  unfold f_L_c20 p_L_c20
  obtain ⟨p4, p5, e⟩ := ag_tsize (by omega) hK (xs (v + 1).toNatClampNeg)
  refine ⟨?_, hA, p4, hA, p5, fun a b q => ?_⟩
  · rw [e]
    exact eq_if rfl (H _ _ _ _ _ _ _ _ _ _ _ _ _ _ _ _ _ _ _ _ _ _ _ h)
  · rw [e] at q
    cases q
    exact ⟨fun _ => P _ _ _ _ _ _ _ _ _ _ _ _ _ _ _ _ _ _ _ _ _ _ _ h, fun _ => trivial⟩
theorem k_c21 {rcf : Int32 → Int32 → Int32 → AA → AA → AA → AA → Int32 → AA → AA → AA → AA → AA → Int32 → AA → AA → Int32 → Int32 → Int32 → Int32 → Int32 → AA → AA → AA → AA → AA → AA → AA → AA → AA → AA → AA → LA → Int32} {rcp : Int32 → Int32 → Int32 → AA → AA → AA → AA → Int32 → AA → AA → AA → AA → AA → Int32 → AA → AA → Int32 → Int32 → Int32 → Int32 → Int32 → AA → AA → AA → AA → AA → AA → AA → AA → AA → AA → AA → LA → Prop} {xs : AA} {L : Nat} {v : Int32} {C T : Nat} {r t : Int32} {gn gu gb ga lk ln lt ll lr tn tt mn mu mt md mz mi : AA} {oo : LA} (h : Rel C T r gn gu gb ga tn tt mn mu mt md mz mi) (H : RF rcf (v + 3)) (P : RP rcp (v + 3)) (hA : vp_in (v + 1) L) (hB : vp_in (v + 2) L) : f_L_c21 rcf xs v r t gn gu gb ga (nI C) lk ln lt ll lr (nI T) tn tt r (nI T) (nI C) t mn mu lr mt md mz mi lk ln lt ll oo = 1 ∧ p_L_c21 rcp xs L v r t gn gu gb ga (nI C) lk ln lt ll lr (nI T) tn tt r (nI T) (nI C) t mn mu lr mt md mz mi lk ln lt ll oo := by
  obtain ⟨hG, hS, hM, hC, hT, hK⟩ := id h
  unfold f_L_c21 p_L_c21
  obtain ⟨p4, p5, e⟩ := ag_tinto (by omega) hK (xs (v + 1).toNatClampNeg)
  refine ⟨?_, hA, p4, hA, p5, fun a b q => ?_⟩
  · rw [e]
    exact eq_if rfl (H _ _ _ _ _ _ _ _ _ _ _ _ _ _ _ _ _ _ _ _ _ _ _ h)
  · rw [e] at q
    cases q
    exact ⟨fun _ => P _ _ _ _ _ _ _ _ _ _ _ _ _ _ _ _ _ _ _ _ _ _ _ h, fun _ => trivial⟩
theorem k_c23 {rcf : Int32 → Int32 → Int32 → AA → AA → AA → AA → Int32 → AA → AA → AA → AA → AA → Int32 → AA → AA → Int32 → Int32 → Int32 → Int32 → Int32 → AA → AA → AA → AA → AA → AA → AA → AA → AA → AA → AA → LA → Int32} {rcp : Int32 → Int32 → Int32 → AA → AA → AA → AA → Int32 → AA → AA → AA → AA → AA → Int32 → AA → AA → Int32 → Int32 → Int32 → Int32 → Int32 → AA → AA → AA → AA → AA → AA → AA → AA → AA → AA → AA → LA → Prop} {v : Int32} {C T : Nat} {r t : Int32} {gn gu gb ga lk ln lt ll lr tn tt mn mu mt md mz mi : AA} {oo : LA} (h : Rel C T r gn gu gb ga tn tt mn mu mt md mz mi) (H : RF rcf (v + 3)) (P : RP rcp (v + 3)) : f_L_c23 rcf v r t gn gu gb ga (nI C) lk ln lt ll lr (nI T) tn tt r (nI T) (nI C) t mn mu lr mt md mz mi lk ln lt ll oo = 1 ∧ p_L_c23 rcp v r t gn gu gb ga (nI C) lk ln lt ll lr (nI T) tn tt r (nI T) (nI C) t mn mu lr mt md mz mi lk ln lt ll oo := by
  obtain ⟨hG, hS, hM, hC, hT, hK⟩ := id h
  unfold f_L_c23 p_L_c23
  obtain ⟨p4, p5, e⟩ := ag_causes hG hS hM
  refine ⟨?_, p4, p5, fun a b q => ?_⟩
  · rw [e]
    exact eq_if rfl (H _ _ _ _ _ _ _ _ _ _ _ _ _ _ _ _ _ _ _ _ _ _ _ h)
  · rw [e] at q
    cases q
    exact ⟨fun _ => P _ _ _ _ _ _ _ _ _ _ _ _ _ _ _ _ _ _ _ _ _ _ _ h, fun _ => trivial⟩
theorem k_c26 {rcf : Int32 → Int32 → Int32 → AA → AA → AA → AA → Int32 → AA → AA → AA → AA → AA → Int32 → AA → AA → Int32 → Int32 → Int32 → Int32 → Int32 → AA → AA → AA → AA → AA → AA → AA → AA → AA → AA → AA → LA → Int32} {rcp : Int32 → Int32 → Int32 → AA → AA → AA → AA → Int32 → AA → AA → AA → AA → AA → Int32 → AA → AA → Int32 → Int32 → Int32 → Int32 → Int32 → AA → AA → AA → AA → AA → AA → AA → AA → AA → AA → AA → LA → Prop} {v : Int32} {C T : Nat} {r t : Int32} {gn gu gb ga lk ln lt ll lr tn tt mn mu mt md mz mi : AA} {oo : LA} (h : Rel C T r gn gu gb ga tn tt mn mu mt md mz mi) (H : RF rcf (v + 3)) (P : RP rcp (v + 3)) : f_L_c26 rcf v r t gn gu gb ga (nI C) lk ln lt ll lr (nI T) tn tt r (nI T) (nI C) t mn mu lr mt md mz mi lk ln lt ll oo = 1 ∧ p_L_c26 rcp v r t gn gu gb ga (nI C) lk ln lt ll lr (nI T) tn tt r (nI T) (nI C) t mn mu lr mt md mz mi lk ln lt ll oo := by
  obtain ⟨hG, hS, hM, hC, hT, hK⟩ := id h
  unfold f_L_c26 p_L_c26
  obtain ⟨p4, p5, e⟩ := ag_gcount hG hS hM
  refine ⟨?_, p4, p5, fun a b q => ?_⟩
  · rw [e]
    exact eq_if rfl (H _ _ _ _ _ _ _ _ _ _ _ _ _ _ _ _ _ _ _ _ _ _ _ h)
  · rw [e] at q
    cases q
    exact ⟨fun _ => P _ _ _ _ _ _ _ _ _ _ _ _ _ _ _ _ _ _ _ _ _ _ _ h, fun _ => trivial⟩
theorem k_c2 {rcf : Int32 → Int32 → Int32 → AA → AA → AA → AA → Int32 → AA → AA → AA → AA → AA → Int32 → AA → AA → Int32 → Int32 → Int32 → Int32 → Int32 → AA → AA → AA → AA → AA → AA → AA → AA → AA → AA → AA → LA → Int32} {rcp : Int32 → Int32 → Int32 → AA → AA → AA → AA → Int32 → AA → AA → AA → AA → AA → Int32 → AA → AA → Int32 → Int32 → Int32 → Int32 → Int32 → AA → AA → AA → AA → AA → AA → AA → AA → AA → AA → AA → LA → Prop} {xs : AA} {L : Nat} {v : Int32} {C T : Nat} {r t : Int32} {gn gu gb ga lk ln lt ll lr tn tt mn mu mt md mz mi : AA} {oo : LA} (h : Rel C T r gn gu gb ga tn tt mn mu mt md mz mi) (H : RF rcf (v + 3)) (P : RP rcp (v + 3)) (hA : vp_in (v + 1) L) (hB : vp_in (v + 2) L) : f_L_c2 rcf xs v r t gn gu gb ga (nI C) lk ln lt ll lr (nI T) tn tt r (nI T) (nI C) t mn mu lr mt md mz mi lk ln lt ll oo = 1 ∧ p_L_c2 rcp xs L v r t gn gu gb ga (nI C) lk ln lt ll lr (nI T) tn tt r (nI T) (nI C) t mn mu lr mt md mz mi lk ln lt ll oo := by
  obtain ⟨hG, hS, hM, hC, hT, hK⟩ := id h
  obtain ⟨p4, p5, ag⟩ := ag_needs hS (xs (v + 1).toNatClampNeg) (xs (v + 2).toNatClampNeg)
  rcases ag with ⟨E, e1, e0⟩ | ⟨w, e1, e2⟩
  · obtain ⟨x, e2⟩ := pair_of e0
    have hL : f_L_needs gn oo (xs (v + 1).toNatClampNeg) (xs (v + 2).toNatClampNeg) = (1, oo) := by unfold f_L_needs; rw [e1]
    refine ⟨?_, hA, hB, ⟨p4, by intros; exact ⟨⟨fun _ => trivial, fun _ => trivial⟩, fun _ _ => trivial⟩⟩, by intro _ _ q; rw [hL] at q; cases q; exact ⟨hA, hB, p5, by intro _ _ q; rw [e2] at q; cases q; exact ⟨fun _ => ⟨fun _ => ⟨⟨fun _ => trivial, fun _ => trivial⟩, fun _ _ => ⟨fun _ => P _ _ _ _ _ _ _ _ _ _ _ _ _ _ _ _ _ _ _ _ _ _ _ h, fun _ => trivial⟩⟩, fun _ => P _ _ _ _ _ _ _ _ _ _ _ _ _ _ _ _ _ _ _ _ _ _ _ h⟩, fun _ => trivial⟩⟩⟩
    unfold f_L_c2
    rw [hL, e2]
    exact law_if (c := 1) (d := 1) rfl (fun q => absurd q n10) (fun _ => H _ _ _ _ _ _ _ _ _ _ _ _ _ _ _ _ _ _ _ _ _ _ _ h)
  · have hL : f_L_needs gn oo (xs (v + 1).toNatClampNeg) (xs (v + 2).toNatClampNeg) = (0, (vp_updL oo (0 : Int32).toNatClampNeg (if w = 0 then (0 : Int64) else (1 : Int64)))) := by unfold f_L_needs; rw [e1]
    refine ⟨?_, hA, hB, ⟨p4, by intros; exact ⟨⟨fun _ => trivial, fun _ => trivial⟩, fun _ _ => trivial⟩⟩, by intro _ _ q; rw [hL] at q; cases q; exact ⟨hA, hB, p5, by intro _ _ q; rw [e2] at q; cases q; exact ⟨fun _ => ⟨fun _ => ⟨⟨fun _ => trivial, fun _ => trivial⟩, fun _ _ => ⟨fun _ => P _ _ _ _ _ _ _ _ _ _ _ _ _ _ _ _ _ _ _ _ _ _ _ h, fun _ => trivial⟩⟩, fun _ => P _ _ _ _ _ _ _ _ _ _ _ _ _ _ _ _ _ _ _ _ _ _ _ h⟩, fun _ => trivial⟩⟩⟩
    unfold f_L_c2
    rw [hL, e2]
    exact law_if (c := 0) (d := 0) rfl (fun _ => cmp_if pk_uLs (H _ _ _ _ _ _ _ _ _ _ _ _ _ _ _ _ _ _ _ _ _ _ _ h)) (fun q => absurd rfl q)
theorem k_c3 {rcf : Int32 → Int32 → Int32 → AA → AA → AA → AA → Int32 → AA → AA → AA → AA → AA → Int32 → AA → AA → Int32 → Int32 → Int32 → Int32 → Int32 → AA → AA → AA → AA → AA → AA → AA → AA → AA → AA → AA → LA → Int32} {rcp : Int32 → Int32 → Int32 → AA → AA → AA → AA → Int32 → AA → AA → AA → AA → AA → Int32 → AA → AA → Int32 → Int32 → Int32 → Int32 → Int32 → AA → AA → AA → AA → AA → AA → AA → AA → AA → AA → AA → LA → Prop} {xs : AA} {L : Nat} {v : Int32} {C T : Nat} {r t : Int32} {gn gu gb ga lk ln lt ll lr tn tt mn mu mt md mz mi : AA} {oo : LA} (h : Rel C T r gn gu gb ga tn tt mn mu mt md mz mi) (H : RF rcf (v + 3)) (P : RP rcp (v + 3)) (hA : vp_in (v + 1) L) (hB : vp_in (v + 2) L) : f_L_c3 rcf xs v r t gn gu gb ga (nI C) lk ln lt ll lr (nI T) tn tt r (nI T) (nI C) t mn mu lr mt md mz mi lk ln lt ll oo = 1 ∧ p_L_c3 rcp xs L v r t gn gu gb ga (nI C) lk ln lt ll lr (nI T) tn tt r (nI T) (nI C) t mn mu lr mt md mz mi lk ln lt ll oo := by
  obtain ⟨hG, hS, hM, hC, hT, hK⟩ := id h
  obtain ⟨p4, p5, ag⟩ := ag_depends hS (xs (v + 1).toNatClampNeg) (xs (v + 2).toNatClampNeg)
  rcases ag with ⟨E, e1, e0⟩ | ⟨w, e1, e2⟩
  · obtain ⟨x, e2⟩ := pair_of e0
    have hL : f_L_dependsOn gb oo (xs (v + 1).toNatClampNeg) (xs (v + 2).toNatClampNeg) = (1, oo) := by unfold f_L_dependsOn; rw [e1]
    refine ⟨?_, hA, hB, ⟨p4, by intros; exact ⟨⟨fun _ => trivial, fun _ => trivial⟩, fun _ _ => trivial⟩⟩, by intro _ _ q; rw [hL] at q; cases q; exact ⟨hA, hB, p5, by intro _ _ q; rw [e2] at q; cases q; exact ⟨fun _ => ⟨fun _ => ⟨⟨fun _ => trivial, fun _ => trivial⟩, fun _ _ => ⟨fun _ => P _ _ _ _ _ _ _ _ _ _ _ _ _ _ _ _ _ _ _ _ _ _ _ h, fun _ => trivial⟩⟩, fun _ => P _ _ _ _ _ _ _ _ _ _ _ _ _ _ _ _ _ _ _ _ _ _ _ h⟩, fun _ => trivial⟩⟩⟩
    unfold f_L_c3
    rw [hL, e2]
    exact law_if (c := 1) (d := 1) rfl (fun q => absurd q n10) (fun _ => H _ _ _ _ _ _ _ _ _ _ _ _ _ _ _ _ _ _ _ _ _ _ _ h)
  · have hL : f_L_dependsOn gb oo (xs (v + 1).toNatClampNeg) (xs (v + 2).toNatClampNeg) = (0, (vp_updL oo (0 : Int32).toNatClampNeg (if w = 0 then (0 : Int64) else (1 : Int64)))) := by unfold f_L_dependsOn; rw [e1]
    refine ⟨?_, hA, hB, ⟨p4, by intros; exact ⟨⟨fun _ => trivial, fun _ => trivial⟩, fun _ _ => trivial⟩⟩, by intro _ _ q; rw [hL] at q; cases q; exact ⟨hA, hB, p5, by intro _ _ q; rw [e2] at q; cases q; exact ⟨fun _ => ⟨fun _ => ⟨⟨fun _ => trivial, fun _ => trivial⟩, fun _ _ => ⟨fun _ => P _ _ _ _ _ _ _ _ _ _ _ _ _ _ _ _ _ _ _ _ _ _ _ h, fun _ => trivial⟩⟩, fun _ => P _ _ _ _ _ _ _ _ _ _ _ _ _ _ _ _ _ _ _ _ _ _ _ h⟩, fun _ => trivial⟩⟩⟩
    unfold f_L_c3
    rw [hL, e2]
    exact law_if (c := 0) (d := 0) rfl (fun _ => cmp_if pk_uLs (H _ _ _ _ _ _ _ _ _ _ _ _ _ _ _ _ _ _ _ _ _ _ _ h)) (fun q => absurd rfl q)
theorem k_c4 {rcf : Int32 → Int32 → Int32 → AA → AA → AA → AA → Int32 → AA → AA → AA → AA → AA → Int32 → AA → AA → Int32 → Int32 → Int32 → Int32 → Int32 → AA → AA → AA → AA → AA → AA → AA → AA → AA → AA → AA → LA → Int32} {rcp : Int32 → Int32 → Int32 → AA → AA → AA → AA → Int32 → AA → AA → AA → AA → AA → Int32 → AA → AA → Int32 → Int32 → Int32 → Int32 → Int32 → AA → AA → AA → AA → AA → AA → AA → AA → AA → AA → AA → LA → Prop} {xs : AA} {L : Nat} {v : Int32} {C T : Nat} {r t : Int32} {gn gu gb ga lk ln lt ll lr tn tt mn mu mt md mz mi : AA} {oo : LA} (h : Rel C T r gn gu gb ga tn tt mn mu mt md mz mi) (H : RF rcf (v + 3)) (P : RP rcp (v + 3)) (hA : vp_in (v + 1) L) (hB : vp_in (v + 2) L) : f_L_c4 rcf xs v r t gn gu gb ga (nI C) lk ln lt ll lr (nI T) tn tt r (nI T) (nI C) t mn mu lr mt md mz mi lk ln lt ll oo = 1 ∧ p_L_c4 rcp xs L v r t gn gu gb ga (nI C) lk ln lt ll lr (nI T) tn tt r (nI T) (nI C) t mn mu lr mt md mz mi lk ln lt ll oo := by
  obtain ⟨hG, hS, hM, hC, hT, hK⟩ := id h
  obtain ⟨p4, p5, ag⟩ := ag_height hG hS (xs (v + 1).toNatClampNeg)
  rcases ag with ⟨E, e1, e0⟩ | ⟨w, e1, e2⟩
  · obtain ⟨x, e2⟩ := pair_of e0
    have hL : f_L_height gn oo (xs (v + 1).toNatClampNeg) = (1, oo) := by unfold f_L_height; rw [e1]
    refine ⟨?_, hA, ⟨p4, by intros; trivial⟩, by intro _ _ q; rw [hL] at q; cases q; exact ⟨hA, p5, by intro _ _ q; rw [e2] at q; cases q; exact ⟨fun _ => ⟨fun _ => ⟨fun _ => P _ _ _ _ _ _ _ _ _ _ _ _ _ _ _ _ _ _ _ _ _ _ _ h, fun _ => trivial⟩, fun _ => P _ _ _ _ _ _ _ _ _ _ _ _ _ _ _ _ _ _ _ _ _ _ _ h⟩, fun _ => trivial⟩⟩⟩
    unfold f_L_c4
    rw [hL, e2]
    exact law_if (c := 1) (d := 1) rfl (fun q => absurd q n10) (fun _ => H _ _ _ _ _ _ _ _ _ _ _ _ _ _ _ _ _ _ _ _ _ _ _ h)
  · have hL : f_L_height gn oo (xs (v + 1).toNatClampNeg) = (0, (vp_updL oo (0 : Int32).toNatClampNeg w.toInt64)) := by unfold f_L_height; rw [e1]
    refine ⟨?_, hA, ⟨p4, by intros; trivial⟩, by intro _ _ q; rw [hL] at q; cases q; exact ⟨hA, p5, by intro _ _ q; rw [e2] at q; cases q; exact ⟨fun _ => ⟨fun _ => ⟨fun _ => P _ _ _ _ _ _ _ _ _ _ _ _ _ _ _ _ _ _ _ _ _ _ _ h, fun _ => trivial⟩, fun _ => P _ _ _ _ _ _ _ _ _ _ _ _ _ _ _ _ _ _ _ _ _ _ _ h⟩, fun _ => trivial⟩⟩⟩
    unfold f_L_c4
    rw [hL, e2]
    exact law_if (c := 0) (d := 0) rfl (fun _ => cmp_if pk_uLs (H _ _ _ _ _ _ _ _ _ _ _ _ _ _ _ _ _ _ _ _ _ _ _ h)) (fun q => absurd rfl q)
