/-! ===== the law's own loop ===== -/
theorem tail_f {A B : Prop} [Decidable A] [Decidable B] {c h : Int32} (hc : c = 1) (hh : h = 1) : (if (1 : Int32) = 0 then (0 : Int32) else (if A then (if B then (1 : Int32) else (if c = 0 then (0 : Int32) else (1 : Int32))) else (if h = 0 then (0 : Int32) else (if B then (1 : Int32) else (if c = 0 then (0 : Int32) else (1 : Int32)))))) = 1 := by
  have k1 : ¬ (1 : Int32) = 0 := by decide
  rw [hc, hh, if_neg k1]
  by_cases a : A
  · rw [if_pos a]
    by_cases b : B
    · rw [if_pos b]
    · rw [if_neg b, if_neg k1]
  · rw [if_neg a, if_neg k1]
    by_cases b : B
    · rw [if_pos b]
    · rw [if_neg b, if_neg k1]
theorem tail_p {J A B C H pc ph : Prop} (hc : pc) (hh : ph) : (J → True) ∧ (¬ J → ((A → ((B → True) ∧ (¬ B → (pc ∧ ((C → True) ∧ (¬ C → True)))))) ∧ (¬ A → (ph ∧ ((H → True) ∧ (¬ H → ((B → True) ∧ (¬ B → (pc ∧ ((C → True) ∧ (¬ C → True))))))))))) :=
  ⟨fun _ => trivial, fun _ => ⟨fun _ => ⟨fun _ => trivial, fun _ => ⟨hc, fun _ => trivial, fun _ => trivial⟩⟩, fun _ => ⟨hh, fun _ => trivial, fun _ => ⟨fun _ => trivial, fun _ => ⟨hc, fun _ => trivial, fun _ => trivial⟩⟩⟩⟩⟩
theorem q_cell {xs : AA} {L : Nat} (hL : L ≤ 260) {i : Nat} (hi : i < 40) : p_L_cell L xs (nI i) ∧ ∃ Y, Y < 2 ^ 31 ∧ f_L_cell L xs (nI i) = nI Y := by
  constructor
  · refine ⟨⟨fun _ => trivial, fun q => ⟨?_, trivial⟩⟩, fun _ _ => trivial⟩
    have : i < L := by
      rcases Nat.lt_or_ge i L with w | w
      · exact w
      · exact absurd (nI_le w (by omega)) q
    exact vp_in_nI this (by omega)
  · unfold f_L_cell
    dsimp only
    exact pk_andE _ (m := 2147483647) 31 (by decide +kernel)
theorem w40 {i : Nat} (h : i < 40) : ¬ (40 : Int32) ≤ nI i := fun q => by
  have := (nI_leI (a := 40) (b := i) (by decide) (by omega)).mp q
  omega
theorem y40 : (40 : Int32) ≤ nI 40 := (nI_leI (a := 40) (b := 40) (by decide) (by decide)).mpr (Nat.le_refl _)
/-- what the loop ends with -/
def FinL (z : Int32 × Int32 × Int32 × Int32 × AA × AA × AA × AA × Int32 × AA × AA × AA × AA × AA × Int32 × AA × AA) : Prop := ∃ (xr' : Int32) (xt' : Int32) (gn' : AA) (gu' : AA) (gb' : AA) (ga' : AA) (lc' : Int32) (lk' : AA) (ln' : AA) (lt' : AA) (ll' : AA) (lr' : AA) (tw' : Int32) (tn' : AA) (tt' : AA), z = (1, nI 40, xr', xt', gn', gu', gb', ga', lc', lk', ln', lt', ll', lr', tw', tn', tt') ∧ GI gn' gu' gb' ga' ∧ M14 xr' ∧ TR xr' tn'
theorem need_val {gn gu gb ga : AA} (hG : GI gn gu gb ga) {a b : Nat} (a14 : a < 14) (b14 : b < 14) : ∃ (r : Int32) (gn' gu' gb' ga' : AA), f_L_need gn gu gb ga (nI a) (nI b) = (r, gn', gu', gb', ga') ∧ GI gn' gu' gb' ga' ∧
    (if (if r < 0 then (0 : Int32) else (1 : Int32)) = (if nI a = nI b then (0 : Int32) else (if f_L_depends gb (nI b) (nI a) = 0 then (1 : Int32) else (0 : Int32))) then (if f_L_needs gn' (nI a) (nI b) = 1 then (1 : Int32) else (if (if nI a = nI b then (0 : Int32) else (if f_L_depends gb (nI b) (nI a) = 0 then (1 : Int32) else (0 : Int32))) = 0 then (1 : Int32) else (0 : Int32))) else (0 : Int32)) = 1 := by
  obtain ⟨-, hnd⟩ := q_need hG a14 b14
  obtain ⟨x, hx⟩ : ∃ x : Int32, x = (if nI a = nI b then (0 : Int32) else (if f_L_depends gb (nI b) (nI a) = 0 then (1 : Int32) else (0 : Int32))) := ⟨_, rfl⟩
  have can : ((a = b ∨ bt (gb b) a = true) → x = 0) ∧ (¬ (a = b ∨ bt (gb b) a = true) → x = 1) := by
    rw [hx, (q_depends gb b14 a14).2]
    by_cases e : a = b
    · rw [if_pos (by rw [e])]
      exact ⟨fun _ => rfl, fun q => absurd (Or.inl e) q⟩
    · rw [if_neg (fun q => e ((nI_eq (by omega) (by omega)).mp q))]
      cases hc : bt (gb b) a
      · rw [if_pos ((b00 false).mpr rfl)]
        exact ⟨fun q => q.elim (fun w => absurd w e) (fun w => by cases w), fun _ => rfl⟩
      · rw [if_neg (fun q => by cases (b00 true).mp q)]
        exact ⟨fun _ => rfl, fun q => absurd (Or.inr rfl) q⟩
  obtain ⟨c1, c2⟩ := can
  rw [← hx]
  rcases hnd with ⟨w, e⟩ | ⟨w, v, gn', gu', gb', ga', e, e2, e3, e4⟩
  · refine ⟨_, gn, gu, gb, ga, e, hG, ?_⟩
    have n1 : (-102 : Int32) < 0 := by decide
    rw [c1 w, if_pos n1, if_pos rfl]
    by_cases q : f_L_needs gn (nI a) (nI b) = 1
    · rw [if_pos q]
    · rw [if_neg q, if_pos rfl]
  · refine ⟨v, gn', gu', gb', ga', e, e3, ?_⟩
    have q : f_L_needs gn' (nI a) (nI b) = 1 := by rw [(q_needs gn' a14 b14).2, e4]; exact if_pos rfl
    rw [c2 w, if_neg e2, if_pos rfl, if_pos q]
theorem law_S {xs : AA} {L : Nat} (hL : L ≤ 260) : ∀ (c i n C : Nat) (xr : Int32) (xt : Int32) (gn : AA) (gu : AA) (gb : AA) (ga : AA) (lc : Int32) (lk : AA) (ln : AA) (lt : AA) (ll : AA) (lr : AA) (tw : Int32) (tn : AA) (tt : AA), i + c = 40 → c < n → C ≤ 3 * i → GI gn gu gb ga → ST C xr lc tw tn →
    p_L_law_L30 xs L n 1 (nI i) xr xt gn gu gb ga lc lk ln lt ll lr tw tn tt ∧ FinL (f_L_law_L30 xs L n 1 (nI i) xr xt gn gu gb ga lc lk ln lt ll lr tw tn tt) := by
  have k1 : ¬ (1 : Int32) = 0 := by decide
  intro c
  induction c with
  | zero =>
    intro i n C xr xt gn gu gb ga lc lk ln lt ll lr tw tn tt hi hn hC hG hS
    obtain ⟨n, rfl⟩ : ∃ k, n = k + 1 := ⟨n - 1, by omega⟩
    have e : i = 40 := by omega
    subst e
    refine ⟨?_, ?_⟩
    · rw [p_L_law_L30]; exact ⟨fun _ => trivial, fun q => absurd y40 q⟩
    · rw [f_L_law_L30, if_pos y40]
      exact ⟨xr, xt, gn, gu, gb, ga, lc, lk, ln, lt, ll, lr, tw, tn, tt, rfl, hG, hS.1, hS.tr (by omega)⟩
  | succ c ih =>
    intro i n C xr xt gn gu gb ga lc lk ln lt ll lr tw tn tt hi hn hC hG hS
    obtain ⟨n, rfl⟩ : ∃ k, n = k + 1 := ⟨n - 1, by omega⟩
    have hi40 : i < 40 := by omega
    have hC2 : C < 300 := by omega
    obtain ⟨pcell, Y, hY, ecell⟩ := q_cell (xs := xs) hL hi40
    have hZ : Y / 8 < 2 ^ 31 := Nat.lt_of_le_of_lt (Nat.div_le_self _ _) hY
    have e8 : nI Y / 8 = nI (Y / 8) := pk_div (d := 8) hY (by decide) (by decide)
    have eM0 : nI Y - nI (Y / 8) * 8 = nI (Y % 8) := by
      have q : nI Y - nI Y / 8 * 8 = nI (Y % 8) := pk_rem (d := 8) hY (by decide) (by decide)
      rw [e8] at q
      exact q
    have eA0 : nI (Y / 8) - nI (Y / 8) / 14 * 14 = nI (Y / 8 % 14) := pk_rem (d := 14) hZ (by decide) (by decide)
    have eT0 : nI (Y / 8) - nI (Y / 8) / 100 * 100 = nI (Y / 8 % 100) := pk_rem (d := 100) hZ (by decide) (by decide)
    have eD : nI (Y / 8) / 14 = nI (Y / 8 / 14) := pk_div (d := 14) hZ (by decide) (by decide)
    have eB0 : nI (Y / 8 / 14) - nI (Y / 8 / 14) / 14 * 14 = nI (Y / 8 / 14 % 14) := pk_rem (d := 14) (Nat.lt_of_le_of_lt (Nat.div_le_self _ _) hZ) (by decide) (by decide)
    obtain ⟨M, eM⟩ : ∃ M, nI Y - nI (Y / 8) * 8 = nI M := ⟨_, eM0⟩
    obtain ⟨a, a14, eA⟩ : ∃ a, a < 14 ∧ nI (Y / 8) - nI (Y / 8) / 14 * 14 = nI a := ⟨_, Nat.mod_lt _ (by decide), eA0⟩
    obtain ⟨b, b14, eB⟩ : ∃ b, b < 14 ∧ nI (Y / 8 / 14) - nI (Y / 8 / 14) / 14 * 14 = nI b := ⟨_, Nat.mod_lt _ (by decide), eB0⟩
    obtain ⟨T, T100, eT⟩ : ∃ T, T < 100 ∧ nI (Y / 8) - nI (Y / 8) / 100 * 100 = nI T := ⟨_, Nat.mod_lt _ (by decide), eT0⟩
    have pnd := (q_need hG a14 b14).1
    obtain ⟨rN, nn, nu, nb, na, eN, GN, vN⟩ := need_val hG a14 b14
    obtain ⟨hpN, hfN⟩ := hangs_ok GN
    obtain ⟨cpN, cfN⟩ := causes_ok GN hS.1 (hS.tr (by omega))
    obtain ⟨iN1, iN2⟩ := ih (i + 1) n C xr xt nn nu nb na lc lk ln lt ll lr tw tn tt (by omega) (by omega) (by omega) GN hS
    obtain ⟨hpO, hfO⟩ := hangs_ok hG
    obtain ⟨cpO, cfO⟩ := causes_ok hG hS.1 (hS.tr (by omega))
    obtain ⟨pR, rn, ru, rb, ra, eR, GR, vR⟩ := q_release hG a14 b14
    obtain ⟨hpR, hfR⟩ := hangs_ok GR
    obtain ⟨cpR, cfR⟩ := causes_ok GR hS.1 (hS.tr (by omega))
    obtain ⟨iR1, iR2⟩ := ih (i + 1) n C xr xt rn ru rb ra lc lk ln lt ll lr tw tn tt (by omega) (by omega) (by omega) GR hS
    have vR2 : (if (if bt (gn a) b = true then (1 : Int32) else 0) = f_L_needs gn (nI a) (nI b) then (if f_L_needs rn (nI a) (nI b) = 0 then (1 : Int32) else (0 : Int32)) else (0 : Int32)) = 1 := by
      rw [(q_needs gn a14 b14).2, if_pos rfl, (q_needs rn a14 b14).2, vR, if_pos ((b00 false).mpr rfl)]
    have eK : f_L_tick xt (1 + nI T) = (xt + (1 + nI T), xt + (1 + nI T)) := by
      have q : (1 : Int32) + nI T = nI (1 + T) := nI_add 1 T
      rw [q]
      exact q_tick xt (by omega) (by omega)
    have vK : (if xt + (1 + nI T) = f_X4_now xt + 1 + nI T then (1 : Int32) else (0 : Int32)) = 1 := by
      have q : xt + (1 + nI T) = f_X4_now xt + 1 + nI T := (Int32.add_assoc xt 1 (nI T)).symm
      exact if_pos q
    obtain ⟨iK1, iK2⟩ := ih (i + 1) n C xr (xt + (1 + nI T)) gn gu gb ga lc lk ln lt ll lr tw tn tt (by omega) (by omega) (by omega) hG hS
    obtain ⟨pt, et⟩ := q_ticket tn a14
    obtain ⟨y40, h40⟩ : ∃ y : Int32, y = (if f_L_ticket tn (nI a) ≤ 0 then (0 : Int32) else (1 : Int32)) := ⟨_, rfl⟩
    have hTR := hS.tr (by omega) a a14
    have raised : (y40 = 0 ∧ bt xr a = false) ∨ (y40 = 1 ∧ bt xr a = true) := by
      rw [h40, et]
      cases hba : bt xr a
      · refine Or.inl ⟨if_pos ?_, rfl⟩
        exact Classical.byContradiction fun q => by rw [hTR.mpr q] at hba; cases hba
      · exact Or.inr ⟨if_neg (hTR.mp hba), rfl⟩
    refine ⟨?_, ?_⟩
    · rw [p_L_law_L30]
      refine ⟨fun q => absurd q (w40 hi40), fun _ => ⟨fun _ => trivial, fun _ => ⟨pcell, fun y11 q11 => ?_⟩⟩⟩
      rw [ecell, e8, eD, eB] at q11
      subst q11
      rw [ecell, e8, eM, eA]
      refine ⟨fun _ => ?_, fun _ => ⟨fun _ => ⟨fun _ => ?_, fun _ => ⟨fun _ => ?_, fun _ => ?_⟩⟩, fun _ => ?_⟩⟩
      · -- need
        refine ⟨⟨fun _ => trivial, fun _ => ⟨(q_depends gb b14 a14).1, fun _ => trivial, fun _ => trivial⟩⟩, fun y13 q13 => ⟨pnd, fun r u0 u1 u2 u3 qn => ⟨⟨fun _ => trivial, fun _ => trivial⟩, fun y18 q18 => ⟨⟨fun _ => ⟨(q_needs _ a14 b14).1, fun _ => trivial, fun _ => ⟨fun _ => trivial, fun _ => trivial⟩⟩, fun _ => trivial⟩, fun y20 q20 => ?_⟩⟩⟩⟩
        rw [eN] at qn
        cases qn
        subst q13
        subst q18
        rw [vN] at q20
        subst q20
        refine ⟨tail_p cpN hpN, fun y25 q25 => ?_⟩
        rw [tail_f cfN hfN] at q25
        subst q25
        rw [nI_1]
        exact iN1
      · -- release
        refine ⟨(q_needs gn a14 b14).1, fun y120 q120 => ⟨pR, fun r u0 u1 u2 u3 qr => ⟨⟨fun _ => ⟨(q_needs _ a14 b14).1, fun _ => trivial, fun _ => trivial⟩, fun _ => trivial⟩, fun y122 q122 => ?_⟩⟩⟩
        rw [eR] at qr
        cases qr
        subst q120
        rw [vR2] at q122
        subst q122
        refine ⟨tail_p cpR hpR, fun y25 q25 => ?_⟩
        rw [tail_f cfR hfR] at q25
        subst q25
        rw [nI_1]
        exact iR1
      · -- tick
        intro r u qk
        rw [eT] at qk
        rw [eK] at qk
        cases qk
        refine ⟨⟨fun _ => trivial, fun _ => trivial⟩, fun y106 q106 => ?_⟩
        rw [eT, vK] at q106
        subst q106
        refine ⟨tail_p cpO hpO, fun y25 q25 => ?_⟩
        rw [tail_f cfO hfO] at q25
        subst q25
        rw [nI_1]
        exact iK1
      · -- raise, clear
        refine ⟨pt, ⟨fun _ => trivial, fun _ => trivial⟩, fun z40 q40 => ?_⟩
        rw [← h40] at q40
        subst q40
        rcases raised with ⟨e40, hba⟩ | ⟨e40, hba⟩
        · have n40 : y40 = 0 := e40
          obtain ⟨p1, v1, xr1, lc1, lk1, ln1, lt1, ll1, lr1, tw1, tn1, tt1, e1, n1, S1, b1⟩ := q_raise hG hC2 (xt := xt) (lk := lk) (ln := ln) (lt := lt) (ll := ll) (lr := lr) (tt := tt) hS a14 hba
          obtain ⟨p2, v2, e2, n2⟩ := q_raise_no (xt := xt) (gb := gb) (ga := ga) (lc := lc1) (lk := lk1) (ln := ln1) (lt := lt1) (ll := ll1) (lr := lr1) (tw := tw1) (tn := tn1) (tt := tt1) a14 b1
          obtain ⟨pt1, et1⟩ := q_ticket tn1 a14
          have t1 : ¬ f_L_ticket tn1 (nI a) ≤ 0 := by rw [et1]; exact (S1.tr (by omega) a a14).mp b1
          obtain ⟨cpS, cfS⟩ := causes_ok hG S1.1 (S1.tr (by omega))
          obtain ⟨iS1, -⟩ := ih (i + 1) n (C + 1) xr1 xt gn gu gb ga lc1 lk1 ln1 lt1 ll1 lr1 tw1 tn1 tt1 (by omega) (by omega) (by omega) hG S1
          have ev : f_X4_events lc1 = f_X4_events lc + 1 := by unfold f_X4_events f_X2_count; rw [S1.2.1, hS.2.1, nI_1]
          refine ⟨fun _ => ⟨p1, fun r0 r1 r2 r3 r4 r5 r6 r7 r8 r9 r10 qr => ?_⟩, fun q => absurd n40 q⟩
          rw [e1] at qr
          cases qr
          refine ⟨fun q => absurd q n1, fun _ => ⟨pt1, fun q => absurd q t1, fun _ => ⟨p2, fun s0 s1 s2 s3 s4 s5 s6 s7 s8 s9 s10 qs => ?_⟩⟩⟩
          rw [e2] at qs
          cases qs
          refine ⟨⟨fun _ => trivial, fun _ => trivial⟩, fun y53 q53 => ?_⟩
          rw [if_pos n2] at q53
          subst q53
          refine ⟨⟨fun _ => trivial, fun _ => ⟨fun _ => ⟨fun _ => trivial, fun _ => trivial⟩, fun _ => ⟨fun _ => trivial, fun _ => trivial⟩⟩⟩, fun y55 q55 => ?_⟩
          rw [if_neg k1, if_pos n40, if_pos ev] at q55
          subst q55
          refine ⟨tail_p cpS hpO, fun y25 q25 => ?_⟩
          rw [tail_f cfS hfO] at q25
          subst q25
          rw [nI_1]
          exact iS1
        · have n40 : ¬ y40 = 0 := by rw [e40]; exact k1
          obtain ⟨p1, v1, xc1, lc3, lk3, ln3, lt3, ll3, tn3, e1, n1, S1, b1, d1⟩ := q_clear hC2 (xt := xt) (lk := lk) (ln := ln) (lt := lt) (ll := ll) (lr := lr) hS a14 hba
          obtain ⟨pt1, et1⟩ := q_ticket tn3 a14
          have t1 : f_L_ticket tn3 (nI a) = -1 := et1.trans d1
          obtain ⟨p2, v2, xr2, lc2, lk2, ln2, lt2, ll2, lr2, tw2, tn2, tt2, e2, n2, S2, b2⟩ := q_raise hG (show C + 1 < 300 by omega) (xt := xt) (lk := lk3) (ln := ln3) (lt := lt3) (ll := ll3) (lr := lr) (tt := tt) S1 a14 b1
          obtain ⟨p3, v3, xc2, lc4, lk4, ln4, lt4, ll4, tn4, e3, n3, S3, b3, d3⟩ := q_clear (show C + 1 + 1 < 300 by omega) (xt := xt) (lk := lk2) (ln := ln2) (lt := lt2) (ll := ll2) (lr := lr2) S2 a14 b2
          obtain ⟨cpS, cfS⟩ := causes_ok hG S3.1 (S3.tr (by omega))
          obtain ⟨iS1, -⟩ := ih (i + 1) n (C + 1 + 1 + 1) xc2 xt gn gu gb ga lc4 lk4 ln4 lt4 ll4 lr2 tw2 tn4 tt2 (by omega) (by omega) (by omega) hG S3
          have ev : f_X4_events lc4 = f_X4_events lc + 3 := by
            unfold f_X4_events f_X2_count
            rw [S3.2.1, hS.2.1]
            exact (nI_add C 3).symm
          refine ⟨fun q => absurd q n40, fun _ => ⟨p1, fun r0 r1 r2 r3 r4 r5 r6 r7 qr => ?_⟩⟩
          rw [e1] at qr
          cases qr
          refine ⟨fun q => absurd q n1, fun _ => ⟨pt1, fun _ => ⟨p2, fun s0 s1 s2 s3 s4 s5 s6 s7 s8 s9 s10 qs => ?_⟩, fun q => absurd t1 q⟩⟩
          rw [e2] at qs
          cases qs
          refine ⟨fun q => absurd q n2, fun _ => ⟨p3, fun t0 t1 t2 t3 t4 t5 t6 t7 qt => ?_⟩⟩
          rw [e3] at qt
          cases qt
          refine ⟨⟨fun _ => trivial, fun _ => trivial⟩, fun y85 q85 => ?_⟩
          rw [if_neg n3] at q85
          subst q85
          refine ⟨⟨fun _ => trivial, fun _ => ⟨fun _ => ⟨fun _ => trivial, fun _ => trivial⟩, fun _ => ⟨fun _ => trivial, fun _ => trivial⟩⟩⟩, fun y87 q87 => ?_⟩
          rw [if_neg k1, if_neg n40, if_pos ev] at q87
          subst q87
          refine ⟨tail_p cpS hpO, fun y25 q25 => ?_⟩
          rw [tail_f cfS hfO] at q25
          subst q25
          rw [nI_1]
          exact iS1
      · -- need
        refine ⟨⟨fun _ => trivial, fun _ => ⟨(q_depends gb b14 a14).1, fun _ => trivial, fun _ => trivial⟩⟩, fun y13 q13 => ⟨pnd, fun r u0 u1 u2 u3 qn => ⟨⟨fun _ => trivial, fun _ => trivial⟩, fun y18 q18 => ⟨⟨fun _ => ⟨(q_needs _ a14 b14).1, fun _ => trivial, fun _ => ⟨fun _ => trivial, fun _ => trivial⟩⟩, fun _ => trivial⟩, fun y20 q20 => ?_⟩⟩⟩⟩
        rw [eN] at qn
        cases qn
        subst q13
        subst q18
        rw [vN] at q20
        subst q20
        refine ⟨tail_p cpN hpN, fun y25 q25 => ?_⟩
        rw [tail_f cfN hfN] at q25
        subst q25
        rw [nI_1]
        exact iN1
    · rw [f_L_law_L30, if_neg (w40 hi40), if_neg k1, ecell, e8, eM, eA, eT, eD, eB, ← h40]
      dsimp -iota only
      by_cases cM : nI M < 2
      · rw [if_pos cM]
        rw [eN]
        dsimp only
        rw [vN, tail_f cfN hfN, nI_1]
        exact iN2
      · rw [if_neg cM]
        by_cases c10 : (10 : Int32) ≤ nI i
        · rw [if_pos c10]
          by_cases c2 : nI M = 2
          · rw [if_pos c2, eR]
            dsimp only
            rw [vR2, tail_f cfR hfR, nI_1]
            exact iR2
          · rw [if_neg c2]
            by_cases c3 : nI M = 3
            · rw [if_pos c3, eK]
              dsimp only
              rw [vK, tail_f cfO hfO, nI_1]
              exact iK2
            · rw [if_neg c3]
              rcases raised with ⟨e40, hba⟩ | ⟨e40, hba⟩
              · have n40 : y40 = 0 := e40
                obtain ⟨-, v1, xr1, lc1, lk1, ln1, lt1, ll1, lr1, tw1, tn1, tt1, e1, n1, S1, b1⟩ := q_raise hG hC2 (xt := xt) (lk := lk) (ln := ln) (lt := lt) (ll := ll) (lr := lr) (tt := tt) hS a14 hba
                obtain ⟨-, v2, e2, n2⟩ := q_raise_no (xt := xt) (gb := gb) (ga := ga) (lc := lc1) (lk := lk1) (ln := ln1) (lt := lt1) (ll := ll1) (lr := lr1) (tw := tw1) (tn := tn1) (tt := tt1) a14 b1
                have t1 : ¬ f_L_ticket tn1 (nI a) ≤ 0 := by rw [(q_ticket tn1 a14).2]; exact (S1.tr (by omega) a a14).mp b1
                obtain ⟨-, cfS⟩ := causes_ok hG S1.1 (S1.tr (by omega))
                obtain ⟨-, iS2⟩ := ih (i + 1) n (C + 1) xr1 xt gn gu gb ga lc1 lk1 ln1 lt1 ll1 lr1 tw1 tn1 tt1 (by omega) (by omega) (by omega) hG S1
                have ev : f_X4_events lc1 = f_X4_events lc + 1 := by unfold f_X4_events f_X2_count; rw [S1.2.1, hS.2.1, nI_1]
                rw [if_pos n40, e1]
                dsimp only
                rw [if_neg n1, if_neg t1, e2]
                dsimp only
                rw [if_pos n2, if_neg k1, if_pos n40, if_pos ev, tail_f cfS hfO, nI_1]
                exact iS2
              · have n40 : ¬ y40 = 0 := by rw [e40]; exact k1
                obtain ⟨-, v1, xc1, lc3, lk3, ln3, lt3, ll3, tn3, e1, n1, S1, b1, d1⟩ := q_clear hC2 (xt := xt) (lk := lk) (ln := ln) (lt := lt) (ll := ll) (lr := lr) hS a14 hba
                have t1 : f_L_ticket tn3 (nI a) = -1 := (q_ticket tn3 a14).2.trans d1
                obtain ⟨-, v2, xr2, lc2, lk2, ln2, lt2, ll2, lr2, tw2, tn2, tt2, e2, n2, S2, b2⟩ := q_raise hG (show C + 1 < 300 by omega) (xt := xt) (lk := lk3) (ln := ln3) (lt := lt3) (ll := ll3) (lr := lr) (tt := tt) S1 a14 b1
                obtain ⟨-, v3, xc2, lc4, lk4, ln4, lt4, ll4, tn4, e3, n3, S3, b3, d3⟩ := q_clear (show C + 1 + 1 < 300 by omega) (xt := xt) (lk := lk2) (ln := ln2) (lt := lt2) (ll := ll2) (lr := lr2) S2 a14 b2
                obtain ⟨-, cfS⟩ := causes_ok hG S3.1 (S3.tr (by omega))
                obtain ⟨-, iS2⟩ := ih (i + 1) n (C + 1 + 1 + 1) xc2 xt gn gu gb ga lc4 lk4 ln4 lt4 ll4 lr2 tw2 tn4 tt2 (by omega) (by omega) (by omega) hG S3
                have ev : f_X4_events lc4 = f_X4_events lc + 3 := by
                  unfold f_X4_events f_X2_count
                  rw [S3.2.1, hS.2.1]
                  exact (nI_add C 3).symm
                rw [if_neg n40, e1]
                dsimp only
                rw [if_neg n1, if_pos t1, e2]
                dsimp only
                rw [if_neg n2, e3]
                dsimp only
                rw [if_neg n3, if_neg k1, if_neg n40, if_pos ev, tail_f cfS hfO, nI_1]
                exact iS2
        · rw [if_neg c10]
          rw [eN]
          dsimp only
          rw [vN, tail_f cfN hfN, nI_1]
          exact iN2
