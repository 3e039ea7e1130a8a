theorem k_c11 {rcf : Int32 → Int32 → Int32 → AA → AA → AA → AA → Int32 → AA → AA → AA → AA → AA → Int32 → AA → AA → Int32 → Int32 → Int32 → Int32 → Int32 → AA → AA → AA → AA → AA → AA → AA → AA → AA → AA → AA → LA → Int32} {rcp : Int32 → Int32 → Int32 → AA → AA → AA → AA → Int32 → AA → AA → AA → AA → AA → Int32 → AA → AA → Int32 → Int32 → Int32 → Int32 → Int32 → AA → AA → AA → AA → AA → AA → AA → AA → AA → AA → AA → LA → Prop} {xs : AA} {L : Nat} {v : Int32} {C T : Nat} {r t : Int32} {gn gu gb ga lk ln lt ll lr tn tt mn mu mt md mz mi : AA} {oo : LA} (h : Rel C T r gn gu gb ga tn tt mn mu mt md mz mi) (H : RF rcf (v + 3)) (P : RP rcp (v + 3)) (hA : vp_in (v + 1) L) (hB : vp_in (v + 2) L) : f_L_c11 rcf xs v r t gn gu gb ga (nI C) lk ln lt ll lr (nI T) tn tt r (nI T) (nI C) t mn mu lr mt md mz mi lk ln lt ll oo = 1 ∧ p_L_c11 rcp xs L v r t gn gu gb ga (nI C) lk ln lt ll lr (nI T) tn tt r (nI T) (nI C) t mn mu lr mt md mz mi lk ln lt ll oo := by
  obtain ⟨hG, hS, hM, hC, hT, hK⟩ := id h
  obtain ⟨p4, p5, ag⟩ := ag_raises hC (xs (v + 1).toNatClampNeg) (xs (v + 2).toNatClampNeg)
  rcases ag with ⟨E, e1, e0⟩ | ⟨w, e1, e2⟩
  · by_cases hE : E = eIO
    · rw [if_pos hE] at e0
      obtain ⟨x, e2⟩ := pair_of e0
      have hL : f_L_raises t (nI C) lk ln lt oo (xs (v + 1).toNatClampNeg) (xs (v + 2).toNatClampNeg) = (1, oo) := by unfold f_L_raises; rw [e1]; dsimp only; rw [if_pos hE]
      refine ⟨?_, hA, hB, ⟨p4, by intros; trivial⟩, by intro _ _ q; rw [hL] at q; cases q; exact ⟨hA, hB, p5, by intro _ _ q; rw [e2] at q; cases q; exact ⟨fun _ => ⟨fun _ => ⟨fun _ => P _ _ _ _ _ _ _ _ _ _ _ _ _ _ _ _ _ _ _ _ _ _ _ h, fun _ => trivial⟩, fun _ => P _ _ _ _ _ _ _ _ _ _ _ _ _ _ _ _ _ _ _ _ _ _ _ h⟩, fun _ => trivial⟩⟩⟩
      unfold f_L_c11
      rw [hL, e2]
      exact law_if (c := 1) (d := 1) rfl (fun q => absurd q n10) (fun _ => H _ _ _ _ _ _ _ _ _ _ _ _ _ _ _ _ _ _ _ _ _ _ _ h)
    · rw [if_neg hE] at e0
      obtain ⟨x, e2⟩ := pair_of e0
      have hL : f_L_raises t (nI C) lk ln lt oo (xs (v + 1).toNatClampNeg) (xs (v + 2).toNatClampNeg) = (2, oo) := by unfold f_L_raises; rw [e1]; dsimp only; rw [if_neg hE]
      refine ⟨?_, hA, hB, ⟨p4, by intros; trivial⟩, by intro _ _ q; rw [hL] at q; cases q; exact ⟨hA, hB, p5, by intro _ _ q; rw [e2] at q; cases q; exact ⟨fun _ => ⟨fun _ => ⟨fun _ => P _ _ _ _ _ _ _ _ _ _ _ _ _ _ _ _ _ _ _ _ _ _ _ h, fun _ => trivial⟩, fun _ => P _ _ _ _ _ _ _ _ _ _ _ _ _ _ _ _ _ _ _ _ _ _ _ h⟩, fun _ => trivial⟩⟩⟩
      unfold f_L_c11
      rw [hL, e2]
      exact law_if (c := 2) (d := 2) rfl (fun q => absurd q n20) (fun _ => H _ _ _ _ _ _ _ _ _ _ _ _ _ _ _ _ _ _ _ _ _ _ _ h)
  · have hL : f_L_raises t (nI C) lk ln lt oo (xs (v + 1).toNatClampNeg) (xs (v + 2).toNatClampNeg) = (0, (vp_updL oo (0 : Int32).toNatClampNeg w.toInt64)) := by unfold f_L_raises; rw [e1]
    refine ⟨?_, hA, hB, ⟨p4, by intros; trivial⟩, by intro _ _ q; rw [hL] at q; cases q; exact ⟨hA, hB, p5, by intro _ _ q; rw [e2] at q; cases q; exact ⟨fun _ => ⟨fun _ => ⟨fun _ => P _ _ _ _ _ _ _ _ _ _ _ _ _ _ _ _ _ _ _ _ _ _ _ h, fun _ => trivial⟩, fun _ => P _ _ _ _ _ _ _ _ _ _ _ _ _ _ _ _ _ _ _ _ _ _ _ h⟩, fun _ => trivial⟩⟩⟩
    unfold f_L_c11
    rw [hL, e2]
    exact law_if (c := 0) (d := 0) rfl (fun _ => cmp_if pk_uLs (H _ _ _ _ _ _ _ _ _ _ _ _ _ _ _ _ _ _ _ _ _ _ _ h)) (fun q => absurd rfl q)
theorem k_c0 {rcf : Int32 → Int32 → Int32 → AA → AA → AA → AA → Int32 → AA → AA → AA → AA → AA → Int32 → AA → AA → Int32 → Int32 → Int32 → Int32 → Int32 → AA → AA → AA → AA → AA → AA → AA → AA → AA → AA → AA → LA → Int32} {rcp : Int32 → Int32 → Int32 → AA → AA → AA → AA → Int32 → AA → AA → AA → AA → AA → Int32 → AA → AA → Int32 → Int32 → Int32 → Int32 → Int32 → AA → AA → AA → AA → AA → AA → AA → AA → AA → AA → AA → LA → Prop} {xs : AA} {L : Nat} {v : Int32} {C T : Nat} {r t : Int32} {gn gu gb ga lk ln lt ll lr tn tt mn mu mt md mz mi : AA} {oo : LA} (h : Rel C T r gn gu gb ga tn tt mn mu mt md mz mi) (H : RF rcf (v + 3)) (P : RP rcp (v + 3)) (hA : vp_in (v + 1) L) (hB : vp_in (v + 2) L) : f_L_c0 rcf xs v r t gn gu gb ga (nI C) lk ln lt ll lr (nI T) tn tt r (nI T) (nI C) t mn mu lr mt md mz mi lk ln lt ll oo = 1 ∧ p_L_c0 rcp xs L v r t gn gu gb ga (nI C) lk ln lt ll lr (nI T) tn tt r (nI T) (nI C) t mn mu lr mt md mz mi lk ln lt ll oo := by
  obtain ⟨hG, hS, hM, hC, hT, hK⟩ := id h
  obtain ⟨p4, p5, ag⟩ := ag_need hG hS (xs (v + 1).toNatClampNeg) (xs (v + 2).toNatClampNeg)
  rcases ag with ⟨E, e1, e2⟩ | ⟨w, gn', gu', gb', ga', mn', mu', e1, e2, hG', hS'⟩
  · by_cases hE : E = eIO
    · rw [if_pos hE] at e2
      have hL : f_L_need gn gu gb ga oo (xs (v + 1).toNatClampNeg) (xs (v + 2).toNatClampNeg) = (1, gn, gu, gb, ga, oo) := by unfold f_L_need; rw [e1]; dsimp only; rw [if_pos hE]
      refine ⟨?_, hA, hB, ⟨p4, by intros; exact ⟨⟨fun _ => trivial, fun _ => trivial⟩, fun _ _ => trivial⟩⟩, by intro _ _ _ _ _ _ q; rw [hL] at q; cases q; exact ⟨hA, hB, p5, by intro _ _ _ _ q; rw [e2] at q; cases q; exact ⟨fun _ => ⟨fun _ => ⟨⟨fun _ => trivial, fun _ => trivial⟩, fun _ _ => ⟨fun _ => P _ _ _ _ _ _ _ _ _ _ _ _ _ _ _ _ _ _ _ _ _ _ _ h, fun _ => trivial⟩⟩, fun _ => P _ _ _ _ _ _ _ _ _ _ _ _ _ _ _ _ _ _ _ _ _ _ _ h⟩, fun _ => trivial⟩⟩⟩
      unfold f_L_c0
      rw [hL, e2]
      exact law_if (c := 1) (d := 1) rfl (fun q => absurd q n10) (fun _ => H _ _ _ _ _ _ _ _ _ _ _ _ _ _ _ _ _ _ _ _ _ _ _ h)
    · rw [if_neg hE] at e2
      have hL : f_L_need gn gu gb ga oo (xs (v + 1).toNatClampNeg) (xs (v + 2).toNatClampNeg) = (2, gn, gu, gb, ga, oo) := by unfold f_L_need; rw [e1]; dsimp only; rw [if_neg hE]
      refine ⟨?_, hA, hB, ⟨p4, by intros; exact ⟨⟨fun _ => trivial, fun _ => trivial⟩, fun _ _ => trivial⟩⟩, by intro _ _ _ _ _ _ q; rw [hL] at q; cases q; exact ⟨hA, hB, p5, by intro _ _ _ _ q; rw [e2] at q; cases q; exact ⟨fun _ => ⟨fun _ => ⟨⟨fun _ => trivial, fun _ => trivial⟩, fun _ _ => ⟨fun _ => P _ _ _ _ _ _ _ _ _ _ _ _ _ _ _ _ _ _ _ _ _ _ _ h, fun _ => trivial⟩⟩, fun _ => P _ _ _ _ _ _ _ _ _ _ _ _ _ _ _ _ _ _ _ _ _ _ _ h⟩, fun _ => trivial⟩⟩⟩
      unfold f_L_c0
      rw [hL, e2]
      exact law_if (c := 2) (d := 2) rfl (fun q => absurd q n20) (fun _ => H _ _ _ _ _ _ _ _ _ _ _ _ _ _ _ _ _ _ _ _ _ _ _ h)
  · have hL : f_L_need gn gu gb ga oo (xs (v + 1).toNatClampNeg) (xs (v + 2).toNatClampNeg) = (0, gn', gu', gb', ga', (vp_updL oo (0 : Int32).toNatClampNeg (if w = 0 then (0 : Int64) else (1 : Int64)))) := by unfold f_L_need; rw [e1]
    refine ⟨?_, hA, hB, ⟨p4, by intros; exact ⟨⟨fun _ => trivial, fun _ => trivial⟩, fun _ _ => trivial⟩⟩, by intro _ _ _ _ _ _ q; rw [hL] at q; cases q; exact ⟨hA, hB, p5, by intro _ _ _ _ q; rw [e2] at q; cases q; exact ⟨fun _ => ⟨fun _ => ⟨⟨fun _ => trivial, fun _ => trivial⟩, fun _ _ => ⟨fun _ => P _ _ _ _ _ _ _ _ _ _ _ _ _ _ _ _ _ _ _ _ _ _ _ ⟨hG', hS', hM, hC, hT, hK⟩, fun _ => trivial⟩⟩, fun _ => P _ _ _ _ _ _ _ _ _ _ _ _ _ _ _ _ _ _ _ _ _ _ _ ⟨hG', hS', hM, hC, hT, hK⟩⟩, fun _ => trivial⟩⟩⟩
    unfold f_L_c0
    rw [hL, e2]
    exact law_if (c := 0) (d := 0) rfl (fun _ => cmp_if pk_uLs (H _ _ _ _ _ _ _ _ _ _ _ _ _ _ _ _ _ _ _ _ _ _ _ ⟨hG', hS', hM, hC, hT, hK⟩)) (fun q => absurd rfl q)
theorem k_c1 {rcf : Int32 → Int32 → Int32 → AA → AA → AA → AA → Int32 → AA → AA → AA → AA → AA → Int32 → AA → AA → Int32 → Int32 → Int32 → Int32 → Int32 → AA → AA → AA → AA → AA → AA → AA → AA → AA → AA → AA → LA → Int32} {rcp : Int32 → Int32 → Int32 → AA → AA → AA → AA → Int32 → AA → AA → AA → AA → AA → Int32 → AA → AA → Int32 → Int32 → Int32 → Int32 → Int32 → AA → AA → AA → AA → AA → AA → AA → AA → AA → AA → AA → LA → Prop} {xs : AA} {L : Nat} {v : Int32} {C T : Nat} {r t : Int32} {gn gu gb ga lk ln lt ll lr tn tt mn mu mt md mz mi : AA} {oo : LA} (h : Rel C T r gn gu gb ga tn tt mn mu mt md mz mi) (H : RF rcf (v + 3)) (P : RP rcp (v + 3)) (hA : vp_in (v + 1) L) (hB : vp_in (v + 2) L) : f_L_c1 rcf xs v r t gn gu gb ga (nI C) lk ln lt ll lr (nI T) tn tt r (nI T) (nI C) t mn mu lr mt md mz mi lk ln lt ll oo = 1 ∧ p_L_c1 rcp xs L v r t gn gu gb ga (nI C) lk ln lt ll lr (nI T) tn tt r (nI T) (nI C) t mn mu lr mt md mz mi lk ln lt ll oo := by
  obtain ⟨hG, hS, hM, hC, hT, hK⟩ := id h
  obtain ⟨p4, p5, ag⟩ := ag_release hG hS (xs (v + 1).toNatClampNeg) (xs (v + 2).toNatClampNeg)
  rcases ag with ⟨E, e1, e2⟩ | ⟨w, gn', gu', gb', ga', mn', mu', e1, e2, hG', hS'⟩
  · have hE : E = eIO := rel_io e1
    rw [if_pos hE] at e2
    have hL : f_L_release gn gu gb ga oo (xs (v + 1).toNatClampNeg) (xs (v + 2).toNatClampNeg) = (1, gn, gu, gb, ga, oo) := by unfold f_L_release; rw [e1]
    refine ⟨?_, hA, hB, ⟨p4, by intros; exact ⟨⟨fun _ => trivial, fun _ => trivial⟩, fun _ _ => trivial⟩⟩, by intro _ _ _ _ _ _ q; rw [hL] at q; cases q; exact ⟨hA, hB, p5, by intro _ _ _ _ q; rw [e2] at q; cases q; exact ⟨fun _ => ⟨fun _ => ⟨⟨fun _ => trivial, fun _ => trivial⟩, fun _ _ => ⟨fun _ => P _ _ _ _ _ _ _ _ _ _ _ _ _ _ _ _ _ _ _ _ _ _ _ h, fun _ => trivial⟩⟩, fun _ => P _ _ _ _ _ _ _ _ _ _ _ _ _ _ _ _ _ _ _ _ _ _ _ h⟩, fun _ => trivial⟩⟩⟩
    unfold f_L_c1
    rw [hL, e2]
    exact law_if (c := 1) (d := 1) rfl (fun q => absurd q n10) (fun _ => H _ _ _ _ _ _ _ _ _ _ _ _ _ _ _ _ _ _ _ _ _ _ _ h)
  · have hL : f_L_release gn gu gb ga oo (xs (v + 1).toNatClampNeg) (xs (v + 2).toNatClampNeg) = (0, gn', gu', gb', ga', (vp_updL oo (0 : Int32).toNatClampNeg (if w = 0 then (0 : Int64) else (1 : Int64)))) := by unfold f_L_release; rw [e1]
    refine ⟨?_, hA, hB, ⟨p4, by intros; exact ⟨⟨fun _ => trivial, fun _ => trivial⟩, fun _ _ => trivial⟩⟩, by intro _ _ _ _ _ _ q; rw [hL] at q; cases q; exact ⟨hA, hB, p5, by intro _ _ _ _ q; rw [e2] at q; cases q; exact ⟨fun _ => ⟨fun _ => ⟨⟨fun _ => trivial, fun _ => trivial⟩, fun _ _ => ⟨fun _ => P _ _ _ _ _ _ _ _ _ _ _ _ _ _ _ _ _ _ _ _ _ _ _ ⟨hG', hS', hM, hC, hT, hK⟩, fun _ => trivial⟩⟩, fun _ => P _ _ _ _ _ _ _ _ _ _ _ _ _ _ _ _ _ _ _ _ _ _ _ ⟨hG', hS', hM, hC, hT, hK⟩⟩, fun _ => trivial⟩⟩⟩
    unfold f_L_c1
    rw [hL, e2]
    exact law_if (c := 0) (d := 0) rfl (fun _ => cmp_if pk_uLs (H _ _ _ _ _ _ _ _ _ _ _ _ _ _ _ _ _ _ _ _ _ _ _ ⟨hG', hS', hM, hC, hT, hK⟩)) (fun q => absurd rfl q)
theorem k_c5 {rcf : Int32 → Int32 → Int32 → AA → AA → AA → AA → Int32 → AA → AA → AA → AA → AA → Int32 → AA → AA → Int32 → Int32 → Int32 → Int32 → Int32 → AA → AA → AA → AA → AA → AA → AA → AA → AA → AA → AA → LA → Int32} {rcp : Int32 → Int32 → Int32 → AA → AA → AA → AA → Int32 → AA → AA → AA → AA → AA → Int32 → AA → AA → Int32 → Int32 → Int32 → Int32 → Int32 → AA → AA → AA → AA → AA → AA → AA → AA → AA → AA → AA → LA → Prop} {xs : AA} {L : Nat} {v : Int32} {C T : Nat} {r t : Int32} {gn gu gb ga lk ln lt ll lr tn tt mn mu mt md mz mi : AA} {oo : LA} (h : Rel C T r gn gu gb ga tn tt mn mu mt md mz mi) (H : RF rcf (v + 3)) (P : RP rcp (v + 3)) (hA : vp_in (v + 1) L) (hB : vp_in (v + 2) L) : f_L_c5 rcf xs v r t gn gu gb ga (nI C) lk ln lt ll lr (nI T) tn tt r (nI T) (nI C) t mn mu lr mt md mz mi lk ln lt ll oo = 1 ∧ p_L_c5 rcp xs L v r t gn gu gb ga (nI C) lk ln lt ll lr (nI T) tn tt r (nI T) (nI C) t mn mu lr mt md mz mi lk ln lt ll oo := by
  obtain ⟨hG, hS, hM, hC, hT, hK⟩ := id h
  rcases ag_tick t (xs (v + 1).toNatClampNeg) with ⟨E, e1, e2⟩ | ⟨e1, e2⟩
  · have hL : f_L_tick t oo (xs (v + 1).toNatClampNeg) = (1, t, oo) := by unfold f_L_tick; rw [e1]
    refine ⟨?_, hA, by intro _ _ _ q; rw [hL] at q; cases q; exact ⟨hA, by intro _ _ _ q; rw [e2] at q; cases q; exact ⟨fun _ => ⟨fun _ => ⟨fun _ => P _ _ _ _ _ _ _ _ _ _ _ _ _ _ _ _ _ _ _ _ _ _ _ h, fun _ => trivial⟩, fun _ => P _ _ _ _ _ _ _ _ _ _ _ _ _ _ _ _ _ _ _ _ _ _ _ h⟩, fun _ => trivial⟩⟩⟩
    unfold f_L_c5
    rw [hL, e2]
    exact law_if (c := 1) (d := 1) rfl (fun q => absurd q n10) (fun _ => H _ _ _ _ _ _ _ _ _ _ _ _ _ _ _ _ _ _ _ _ _ _ _ h)
  · have hL : f_L_tick t oo (xs (v + 1).toNatClampNeg) = (0, t + (xs (v + 1).toNatClampNeg), (vp_updL oo (0 : Int32).toNatClampNeg (t + (xs (v + 1).toNatClampNeg)).toInt64)) := by unfold f_L_tick; rw [e1]
    refine ⟨?_, hA, by intro _ _ _ q; rw [hL] at q; cases q; exact ⟨hA, by intro _ _ _ q; rw [e2] at q; cases q; exact ⟨fun _ => ⟨fun _ => ⟨fun _ => P _ _ _ _ _ _ _ _ _ _ _ _ _ _ _ _ _ _ _ _ _ _ _ h, fun _ => trivial⟩, fun _ => P _ _ _ _ _ _ _ _ _ _ _ _ _ _ _ _ _ _ _ _ _ _ _ h⟩, fun _ => trivial⟩⟩⟩
    unfold f_L_c5
    rw [hL, e2]
    exact law_if (c := 0) (d := 0) rfl (fun _ => cmp_if pk_uLs (H _ _ _ _ _ _ _ _ _ _ _ _ _ _ _ _ _ _ _ _ _ _ _ h)) (fun q => absurd rfl q)
theorem k_c7 {rcf : Int32 → Int32 → Int32 → AA → AA → AA → AA → Int32 → AA → AA → AA → AA → AA → Int32 → AA → AA → Int32 → Int32 → Int32 → Int32 → Int32 → AA → AA → AA → AA → AA → AA → AA → AA → AA → AA → AA → LA → Int32} {rcp : Int32 → Int32 → Int32 → AA → AA → AA → AA → Int32 → AA → AA → AA → AA → AA → Int32 → AA → AA → Int32 → Int32 → Int32 → Int32 → Int32 → AA → AA → AA → AA → AA → AA → AA → AA → AA → AA → AA → LA → Prop} {xs : AA} {L : Nat} {v : Int32} {C T : Nat} {r t : Int32} {gn gu gb ga lk ln lt ll lr tn tt mn mu mt md mz mi : AA} {oo : LA} (h : Rel C T r gn gu gb ga tn tt mn mu mt md mz mi) (H : RF rcf (v + 3)) (P : RP rcp (v + 3)) (hA : vp_in (v + 1) L) (hB : vp_in (v + 2) L) : f_L_c7 rcf xs v r t gn gu gb ga (nI C) lk ln lt ll lr (nI T) tn tt r (nI T) (nI C) t mn mu lr mt md mz mi lk ln lt ll oo = 1 ∧ p_L_c7 rcp xs L v r t gn gu gb ga (nI C) lk ln lt ll lr (nI T) tn tt r (nI T) (nI C) t mn mu lr mt md mz mi lk ln lt ll oo := by
  obtain ⟨hG, hS, hM, hC, hT, hK⟩ := id h
  obtain ⟨p4, p5, ag⟩ := ag_raise (lr := lr) (t := t) (lk := lk) (ln := ln) (lt := lt) (ll := ll) hG hS hM hC hT hK (xs (v + 1).toNatClampNeg)
  rcases ag with ⟨E, e1, e2⟩ | ⟨w, r', C', T', lk', ln', lt', ll', lr', tn', tt', mt', md', mz', mi', e1, e2, hM', hC', hT', hK'⟩
  · by_cases hE : E = eIO
    · rw [if_pos hE] at e2
      have hL : f_L_raise r t gb ga (nI C) lk ln lt ll lr (nI T) tn tt oo (xs (v + 1).toNatClampNeg) = (1, r, nI C, lk, ln, lt, ll, lr, nI T, tn, tt, oo) := by unfold f_L_raise; rw [e1]; dsimp only; rw [if_pos hE]
      refine ⟨?_, hA, ⟨p4, by intros; trivial⟩, by intro _ _ _ _ _ _ _ _ _ _ _ _ q; rw [hL] at q; cases q; exact ⟨hA, p5, by intro _ _ _ _ _ _ _ _ _ _ _ _ _ _ q; rw [e2] at q; cases q; exact ⟨fun _ => ⟨fun _ => ⟨fun _ => P _ _ _ _ _ _ _ _ _ _ _ _ _ _ _ _ _ _ _ _ _ _ _ h, fun _ => trivial⟩, fun _ => P _ _ _ _ _ _ _ _ _ _ _ _ _ _ _ _ _ _ _ _ _ _ _ h⟩, fun _ => trivial⟩⟩⟩
      unfold f_L_c7
      rw [hL, e2]
      exact law_if (c := 1) (d := 1) rfl (fun q => absurd q n10) (fun _ => H _ _ _ _ _ _ _ _ _ _ _ _ _ _ _ _ _ _ _ _ _ _ _ h)
    · rw [if_neg hE] at e2
      have hL : f_L_raise r t gb ga (nI C) lk ln lt ll lr (nI T) tn tt oo (xs (v + 1).toNatClampNeg) = (2, r, nI C, lk, ln, lt, ll, lr, nI T, tn, tt, oo) := by unfold f_L_raise; rw [e1]; dsimp only; rw [if_neg hE]
      refine ⟨?_, hA, ⟨p4, by intros; trivial⟩, by intro _ _ _ _ _ _ _ _ _ _ _ _ q; rw [hL] at q; cases q; exact ⟨hA, p5, by intro _ _ _ _ _ _ _ _ _ _ _ _ _ _ q; rw [e2] at q; cases q; exact ⟨fun _ => ⟨fun _ => ⟨fun _ => P _ _ _ _ _ _ _ _ _ _ _ _ _ _ _ _ _ _ _ _ _ _ _ h, fun _ => trivial⟩, fun _ => P _ _ _ _ _ _ _ _ _ _ _ _ _ _ _ _ _ _ _ _ _ _ _ h⟩, fun _ => trivial⟩⟩⟩
      unfold f_L_c7
      rw [hL, e2]
      exact law_if (c := 2) (d := 2) rfl (fun q => absurd q n20) (fun _ => H _ _ _ _ _ _ _ _ _ _ _ _ _ _ _ _ _ _ _ _ _ _ _ h)
  · have hL : f_L_raise r t gb ga (nI C) lk ln lt ll lr (nI T) tn tt oo (xs (v + 1).toNatClampNeg) = (0, r', nI C', lk', ln', lt', ll', lr', nI T', tn', tt', (vp_updL oo (0 : Int32).toNatClampNeg w.toInt64)) := by unfold f_L_raise; rw [e1]
    refine ⟨?_, hA, ⟨p4, by intros; trivial⟩, by intro _ _ _ _ _ _ _ _ _ _ _ _ q; rw [hL] at q; cases q; exact ⟨hA, p5, by intro _ _ _ _ _ _ _ _ _ _ _ _ _ _ q; rw [e2] at q; cases q; exact ⟨fun _ => ⟨fun _ => ⟨fun _ => P _ _ _ _ _ _ _ _ _ _ _ _ _ _ _ _ _ _ _ _ _ _ _ ⟨hG, hS, hM', hC', hT', hK'⟩, fun _ => trivial⟩, fun _ => P _ _ _ _ _ _ _ _ _ _ _ _ _ _ _ _ _ _ _ _ _ _ _ ⟨hG, hS, hM', hC', hT', hK'⟩⟩, fun _ => trivial⟩⟩⟩
    unfold f_L_c7
    rw [hL, e2]
    exact law_if (c := 0) (d := 0) rfl (fun _ => cmp_if pk_uLs (H _ _ _ _ _ _ _ _ _ _ _ _ _ _ _ _ _ _ _ _ _ _ _ ⟨hG, hS, hM', hC', hT', hK'⟩)) (fun q => absurd rfl q)
theorem k_c8 {rcf : Int32 → Int32 → Int32 → AA → AA → AA → AA → Int32 → AA → AA → AA → AA → AA → Int32 → AA → AA → Int32 → Int32 → Int32 → Int32 → Int32 → AA → AA → AA → AA → AA → AA → AA → AA → AA → AA → AA → LA → Int32} {rcp : Int32 → Int32 → Int32 → AA → AA → AA → AA → Int32 → AA → AA → AA → AA → AA → Int32 → AA → AA → Int32 → Int32 → Int32 → Int32 → Int32 → AA → AA → AA → AA → AA → AA → AA → AA → AA → AA → AA → LA → Prop} {xs : AA} {L : Nat} {v : Int32} {C T : Nat} {r t : Int32} {gn gu gb ga lk ln lt ll lr tn tt mn mu mt md mz mi : AA} {oo : LA} (h : Rel C T r gn gu gb ga tn tt mn mu mt md mz mi) (H : RF rcf (v + 3)) (P : RP rcp (v + 3)) (hA : vp_in (v + 1) L) (hB : vp_in (v + 2) L) : f_L_c8 rcf xs v r t gn gu gb ga (nI C) lk ln lt ll lr (nI T) tn tt r (nI T) (nI C) t mn mu lr mt md mz mi lk ln lt ll oo = 1 ∧ p_L_c8 rcp xs L v r t gn gu gb ga (nI C) lk ln lt ll lr (nI T) tn tt r (nI T) (nI C) t mn mu lr mt md mz mi lk ln lt ll oo := by
  obtain ⟨hG, hS, hM, hC, hT, hK⟩ := id h
  obtain ⟨p4, p5, ag⟩ := ag_clear (lr := lr) (t := t) (lk := lk) (ln := ln) (lt := lt) (ll := ll) hM hC hT hK (xs (v + 1).toNatClampNeg)
  rcases ag with ⟨E, e1, e2⟩ | ⟨w, r', C', lk', ln', lt', ll', tn', md', mz', e1, e2, hM', hC', hT', hK'⟩
  · by_cases hE : E = eIO
    · rw [if_pos hE] at e2
      have hL : f_L_clear r t (nI C) lk ln lt ll lr (nI T) tn oo (xs (v + 1).toNatClampNeg) = (1, r, nI C, lk, ln, lt, ll, tn, oo) := by unfold f_L_clear; rw [e1]; dsimp only; rw [if_pos hE]
      refine ⟨?_, hA, ⟨p4, by intros; trivial⟩, by intro _ _ _ _ _ _ _ _ _ q; rw [hL] at q; cases q; exact ⟨hA, p5, by intro _ _ _ _ _ _ _ _ _ _ q; rw [e2] at q; cases q; exact ⟨fun _ => ⟨fun _ => ⟨fun _ => P _ _ _ _ _ _ _ _ _ _ _ _ _ _ _ _ _ _ _ _ _ _ _ h, fun _ => trivial⟩, fun _ => P _ _ _ _ _ _ _ _ _ _ _ _ _ _ _ _ _ _ _ _ _ _ _ h⟩, fun _ => trivial⟩⟩⟩
      unfold f_L_c8
      rw [hL, e2]
      exact law_if (c := 1) (d := 1) rfl (fun q => absurd q n10) (fun _ => H _ _ _ _ _ _ _ _ _ _ _ _ _ _ _ _ _ _ _ _ _ _ _ h)
    · rw [if_neg hE] at e2
      have hL : f_L_clear r t (nI C) lk ln lt ll lr (nI T) tn oo (xs (v + 1).toNatClampNeg) = (2, r, nI C, lk, ln, lt, ll, tn, oo) := by unfold f_L_clear; rw [e1]; dsimp only; rw [if_neg hE]
      refine ⟨?_, hA, ⟨p4, by intros; trivial⟩, by intro _ _ _ _ _ _ _ _ _ q; rw [hL] at q; cases q; exact ⟨hA, p5, by intro _ _ _ _ _ _ _ _ _ _ q; rw [e2] at q; cases q; exact ⟨fun _ => ⟨fun _ => ⟨fun _ => P _ _ _ _ _ _ _ _ _ _ _ _ _ _ _ _ _ _ _ _ _ _ _ h, fun _ => trivial⟩, fun _ => P _ _ _ _ _ _ _ _ _ _ _ _ _ _ _ _ _ _ _ _ _ _ _ h⟩, fun _ => trivial⟩⟩⟩
      unfold f_L_c8
      rw [hL, e2]
      exact law_if (c := 2) (d := 2) rfl (fun q => absurd q n20) (fun _ => H _ _ _ _ _ _ _ _ _ _ _ _ _ _ _ _ _ _ _ _ _ _ _ h)
  · have hL : f_L_clear r t (nI C) lk ln lt ll lr (nI T) tn oo (xs (v + 1).toNatClampNeg) = (0, r', nI C', lk', ln', lt', ll', tn', (vp_updL oo (0 : Int32).toNatClampNeg w.toInt64)) := by unfold f_L_clear; rw [e1]
    refine ⟨?_, hA, ⟨p4, by intros; trivial⟩, by intro _ _ _ _ _ _ _ _ _ q; rw [hL] at q; cases q; exact ⟨hA, p5, by intro _ _ _ _ _ _ _ _ _ _ q; rw [e2] at q; cases q; exact ⟨fun _ => ⟨fun _ => ⟨fun _ => P _ _ _ _ _ _ _ _ _ _ _ _ _ _ _ _ _ _ _ _ _ _ _ ⟨hG, hS, hM', hC', hT', hK'⟩, fun _ => trivial⟩, fun _ => P _ _ _ _ _ _ _ _ _ _ _ _ _ _ _ _ _ _ _ _ _ _ _ ⟨hG, hS, hM', hC', hT', hK'⟩⟩, fun _ => trivial⟩⟩⟩
    unfold f_L_c8
    rw [hL, e2]
    exact law_if (c := 0) (d := 0) rfl (fun _ => cmp_if pk_uLs (H _ _ _ _ _ _ _ _ _ _ _ _ _ _ _ _ _ _ _ _ _ _ _ ⟨hG, hS, hM', hC', hT', hK'⟩)) (fun q => absurd rfl q)
