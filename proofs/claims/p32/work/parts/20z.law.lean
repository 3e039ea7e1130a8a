set_option maxHeartbeats 60000000 in
set_option maxRecDepth 100000 in
theorem law_walk {p : Program} {e : Env} {s : State} {m : MethodId} {below : List Frame} {meth : Method} {c : Code} (l : Launch) (hst : l.stackTraces = false) {b0 L : Nat} {xs : Nat → Int32} (hL : L ≤ 260) (C0 : lw_At p s m meth c b0 L xs) (hN : NB s) (hXB : XB (fun q => s.heap.size ≤ q) s s.heap) (D : va_G) (cI : ClassId) (hK : va_K D vwCl [(cI, .int)] s) (he : (1 : Int32) = f_L_law xs L) (hp : p_L_law xs L) : W p l e room_1 s m #[Value.ref b0] below meth c s.heap [] 0 0 (lw_Z below #[Value.ref b0] s) (entryFrame m ([Value.ref b0] : List Value).toArray 10) := by
  obtain ⟨hx, hb, hr, hml, hown, hts, hX, hbl, hlocks, hgv⟩ := id C0
  have hts := fun w h => hts w (wsL_law_in w h)
  have hown : s.vm.findClass RL = some m.cls := hown
  obtain ⟨A, hAe⟩ : ∃ A : Nat → Prop, A = fun q => s.heap.size ≤ q := ⟨_, rfl⟩
  rw [← hAe] at hXB
  have hA : ∀ q : Nat, s.heap.size ≤ q → A q := fun q h => by rw [hAe]; exact h
  have hAle : ∀ q : Nat, A q → s.heap.size ≤ q := fun q h => by rw [hAe] at h; exact h
  have hbA : ¬ A b0 := fun h => Nat.not_le.mpr hbl (hAle _ h)
  have hS : va_S A s.heap s.heap [] := va_S.rf
  have hP : va_P D vwCl [] s.heap := fun k q h => by simp at h
  have hD : va_D A [] := ⟨fun i j p q h => by simp at h, fun k q h => by simp at h⟩
  have hl := lv_entry ([.ref b0]) (n := 10) (Nat.le_of_ble_eq_true rfl)
  rw [lg_entry_eq]
  generalize (lg_sl ([.ref b0]) ++ List.replicate (10 - (lg_sl ([.ref b0])).length) Slot.unset).toArray = ls at hl ⊢
  have hl : lv_has ls 10 [(0, .ref b0)] := hl
  replace he := he.trans (f_L_law.eq_1 ..)
  replace hp := Eq.mp (p_L_law.eq_1 ..) hp
  refine va_new (ci := 4) (fs := [.null, .null, .null, .int 0, .int 0]) (C := RX4) (T := TX4) (N := 5) hx hb hts (by decide +kernel) tyX4 tyX4_ok hown (hts (.classLink RL 10 RX4) (by decide +kernel)) (hts (.instantiable RX4 5) (by decide +kernel)) (hts (.initialized RX4) (by decide +kernel)) hK hP hD hS hA rfl (fun j hj => by rcases (show j = 0 ∨ j = 1 ∨ j = 2 ∨ j = 3 ∨ j = 4 by omega) with rfl | rfl | rfl | rfl | rfl <;> rfl) (Nat.le_of_ble_eq_true rfl) (Nat.le_of_ble_eq_true rfl) dL_law_0 (fun q0 H hP hD hS => ?_)
  have hP : va_P D vwCl [(q0, .inr (4, [.null, .null, .null, .int 0, .int 0]))] H := hP
  have hD : va_D A [(q0, .inr (4, [.null, .null, .null, .int 0, .int 0]))] := hD
  refine lv_dup hx hb dL_law_3 rfl ?_
  have hq1 := hp.1
  replace hp := hp.2
  refine k_callv (S := (AA × AA × AA × AA × Int32 × AA × AA × AA × AA × AA × Int32 × AA × AA) × (Nat × Nat × Nat × Nat × Nat × Nat × Nat × Nat × Nat × Nat × Nat × Nat × Nat × Nat)) (wc := [(q0, .inr (4, [.null, .null, .null, .int 0, .int 0]))]) (wr := ([] : va_W)) (w1 := fun u => (W_X4 cI q0 u.2.1 u.2.2.1 u.2.2.2.1 u.2.2.2.2.1 u.2.2.2.2.2.1 u.2.2.2.2.2.2.1 u.2.2.2.2.2.2.2.1 u.2.2.2.2.2.2.2.2.1 u.2.2.2.2.2.2.2.2.2.1 u.2.2.2.2.2.2.2.2.2.2.1 u.2.2.2.2.2.2.2.2.2.2.2.1 u.2.2.2.2.2.2.2.2.2.2.2.2.1 u.2.2.2.2.2.2.2.2.2.2.2.2.2.1 u.2.2.2.2.2.2.2.2.2.2.2.2.2.2 0 0 u.1.1 u.1.2.1 u.1.2.2.1 u.1.2.2.2.1 u.1.2.2.2.2.1 u.1.2.2.2.2.2.1 u.1.2.2.2.2.2.2.1 u.1.2.2.2.2.2.2.2.1 u.1.2.2.2.2.2.2.2.2.1 u.1.2.2.2.2.2.2.2.2.2.1 u.1.2.2.2.2.2.2.2.2.2.2.1 u.1.2.2.2.2.2.2.2.2.2.2.2.1 u.1.2.2.2.2.2.2.2.2.2.2.2.2)) (fun u => (W_X4 cI q0 u.2.1 u.2.2.1 u.2.2.2.1 u.2.2.2.2.1 u.2.2.2.2.2.1 u.2.2.2.2.2.2.1 u.2.2.2.2.2.2.2.1 u.2.2.2.2.2.2.2.2.1 u.2.2.2.2.2.2.2.2.2.1 u.2.2.2.2.2.2.2.2.2.2.1 u.2.2.2.2.2.2.2.2.2.2.2.1 u.2.2.2.2.2.2.2.2.2.2.2.2.1 u.2.2.2.2.2.2.2.2.2.2.2.2.2.1 u.2.2.2.2.2.2.2.2.2.2.2.2.2.2 0 0 u.1.1 u.1.2.1 u.1.2.2.1 u.1.2.2.2.1 u.1.2.2.2.2.1 u.1.2.2.2.2.2.1 u.1.2.2.2.2.2.2.1 u.1.2.2.2.2.2.2.2.1 u.1.2.2.2.2.2.2.2.2.1 u.1.2.2.2.2.2.2.2.2.2.1 u.1.2.2.2.2.2.2.2.2.2.2.1 u.1.2.2.2.2.2.2.2.2.2.2.2.1 u.1.2.2.2.2.2.2.2.2.2.2.2.2)) hP (hK.sub [0] rfl) hD hN hS hA [0] [] rfl rfl (by decide) (by decide) (by decide) [0, 1, 2, 3, 4, 5, 6, 7, 8, 9, 10, 11, 12, 13, 14] (by decide) (fun _ => rfl) (fun hg => va_runI (As := []) (rest := [.ref q0]) ⟨hx, hb, hml, hown, hts⟩ (c_X4_init l D cI q0 _ hq1) (cwI 0 hts gL_law_X4_init rfl rfl rfl (hts (.initialized RX4) (by decide +kernel)) (hts (.methodLink RL 107 yX4_init) (by decide +kernel)) (hts (.instanceMethod yX4_init) (by decide +kernel)) rfl (by decide +kernel) ⟨Nat.le_of_ble_eq_true rfl, Nat.le_of_ble_eq_true rfl⟩) ⟨PW.blind, fun U hU hW => ⟨rfl, hg U hU hW⟩⟩ rfl rfl hl.1 rfl (lv_room ((by exact Nat.le_of_ble_eq_true rfl))) dL_law_4 ⟨(by show 1 + 14 ≤ 918419; omega), (by show 5 + 1598 ≤ 6345925; omega)⟩) (fun u H locs hw hP hD hS => ?_)
  obtain ⟨⟨u1_0, u1_1, u1_2, u1_3, u1_4, u1_5, u1_6, u1_7, u1_8, u1_9, u1_10, u1_11, u1_12⟩, ⟨n1_0, n1_1, n1_2, n1_3, n1_4, n1_5, n1_6, n1_7, n1_8, n1_9, n1_10, n1_11, n1_12, n1_13⟩⟩ := u
  try dsimp only at hw
  rw [hw] at he
  try dsimp only at he
  replace hp := hp u1_0 u1_1 u1_2 u1_3 u1_4 u1_5 u1_6 u1_7 u1_8 u1_9 u1_10 u1_11 u1_12 hw
  have hP : va_P D vwCl (W_X4 cI q0 n1_0 n1_1 n1_2 n1_3 n1_4 n1_5 n1_6 n1_7 n1_8 n1_9 n1_10 n1_11 n1_12 n1_13 0 0 u1_0 u1_1 u1_2 u1_3 u1_4 u1_5 u1_6 u1_7 u1_8 u1_9 u1_10 u1_11 u1_12) H := hP
  have hD : va_D A (W_X4 cI q0 n1_0 n1_1 n1_2 n1_3 n1_4 n1_5 n1_6 n1_7 n1_8 n1_9 n1_10 n1_11 n1_12 n1_13 0 0 u1_0 u1_1 u1_2 u1_3 u1_4 u1_5 u1_6 u1_7 u1_8 u1_9 u1_10 u1_11 u1_12) := hD
  refine lv_astore_n (lv' := [(1, .ref q0), (0, .ref b0)]) hx hb dL_law_7 rfl hl (by decide) rfl (fun ls hl => ?_)
  refine lv_aload_n hx hb dL_law_8 rfl (lv_at hl 0 rfl) ?_
  have hq2 := hp.1
  replace hp := hp.2
  refine k_ycalli (S := Unit) (wc := (W_X4 cI q0 n1_0 n1_1 n1_2 n1_3 n1_4 n1_5 n1_6 n1_7 n1_8 n1_9 n1_10 n1_11 n1_12 n1_13 0 0 u1_0 u1_1 u1_2 u1_3 u1_4 u1_5 u1_6 u1_7 u1_8 u1_9 u1_10 u1_11 u1_12)) (wr := ([] : va_W)) (w1 := fun u => (W_X4 cI q0 n1_0 n1_1 n1_2 n1_3 n1_4 n1_5 n1_6 n1_7 n1_8 n1_9 n1_10 n1_11 n1_12 n1_13 0 0 u1_0 u1_1 u1_2 u1_3 u1_4 u1_5 u1_6 u1_7 u1_8 u1_9 u1_10 u1_11 u1_12)) (fun u => (W_X4 cI q0 n1_0 n1_1 n1_2 n1_3 n1_4 n1_5 n1_6 n1_7 n1_8 n1_9 n1_10 n1_11 n1_12 n1_13 0 0 u1_0 u1_1 u1_2 u1_3 u1_4 u1_5 u1_6 u1_7 u1_8 u1_9 u1_10 u1_11 u1_12)) hP (hK.sub [0] rfl) hD hN hXB hS hA [0, 1, 2, 3, 4, 5, 6, 7, 8, 9, 10, 11, 12, 13, 14] [] rfl rfl (by decide) (by decide) (by decide) [0, 1, 2, 3, 4, 5, 6, 7, 8, 9, 10, 11, 12, 13, 14] (by decide) (fun _ => rfl) (fun hg => va_runS (As := [.ref q0]) (rest := []) ⟨hx, hb, hml, hown, hts⟩ (c_L_hangs l D cI q0 n1_0 n1_1 n1_2 n1_3 n1_4 n1_5 n1_6 n1_7 n1_8 n1_9 n1_10 n1_11 n1_12 n1_13 (0 : Int32) (0 : Int32) u1_0 u1_1 u1_2 u1_3 u1_4 u1_5 u1_6 u1_7 u1_8 u1_9 u1_10 u1_11 u1_12 _ hq2 hst) (va_cwS 1 hts gL_law_L_hangs rfl rfl rfl (by decide +kernel) ⟨Nat.le_of_ble_eq_true rfl, Nat.le_of_ble_eq_true rfl⟩) ⟨PX.blind, fun U hU hW => ⟨rfl, hg U hU hW⟩⟩ rfl rfl hl.1 rfl (lv_room ((by exact Nat.le_of_ble_eq_true rfl))) dL_law_9 ⟨(by show 15 + 14865 ≤ 918419; omega), (by show 1603 + 89190 ≤ 6345925; omega)⟩) (fun r2 u H locs hw hP hD hS => ?_)
  obtain ⟨hw, hb2⟩ := hw
  subst hw
  obtain ⟨j3, hJ3⟩ : ∃ z : Int32, z = (if (f_L_hangs u1_0 u1_2) = 0 then (0 : Int32) else (if (f_L_causes (0 : Int32) u1_0 u1_1 u1_2 u1_3 u1_11) = 0 then (0 : Int32) else (1 : Int32))) := ⟨_, rfl⟩
  rw [← hJ3] at he
  try dsimp only at he
  have hpJ3 := hp.1
  replace hp := hp.2 _  hJ3.symm
  have kont3 : (j3 = 0 ∨ j3 = 1) → ∀ (H : Heap) (locs : List Loc), va_P D vwCl (W_X4 cI q0 n1_0 n1_1 n1_2 n1_3 n1_4 n1_5 n1_6 n1_7 n1_8 n1_9 n1_10 n1_11 n1_12 n1_13 0 0 u1_0 u1_1 u1_2 u1_3 u1_4 u1_5 u1_6 u1_7 u1_8 u1_9 u1_10 u1_11 u1_12) H → va_D A (W_X4 cI q0 n1_0 n1_1 n1_2 n1_3 n1_4 n1_5 n1_6 n1_7 n1_8 n1_9 n1_10 n1_11 n1_12 n1_13 0 0 u1_0 u1_1 u1_2 u1_3 u1_4 u1_5 u1_6 u1_7 u1_8 u1_9 u1_10 u1_11 u1_12) → va_S A s.heap H locs → ∀ ls : Array Slot, lv_has ls 10 [(1, .ref q0), (0, .ref b0)] → W p l e room_1 s m #[Value.ref b0] below meth c H locs 15975 97074 (lw_Z below #[Value.ref b0] s) (F0 m 27 ls [.int j3]) := by
    intro hb3 H locs hP hD hS ls hl
    refine lv_istore_n (lv' := [(2, .int j3), (1, .ref q0), (0, .ref b0)]) hx hb dL_law_27 rfl hl (by decide) rfl (fun ls hl => ?_)
    refine lv_iconst (v := 0) hx hb dL_law_28 (by decide) ?_
    refine lv_istore_n (lv' := [(3, .int 0), (2, .int j3), (1, .ref q0), (0, .ref b0)]) hx hb dL_law_29 rfl hl (by decide) rfl (fun ls hl => ?_)
    obtain ⟨⟨r7_v30_2, r7_v30_3, r7_xr_30, r7_xt_30, r7_gn_30, r7_gu_30, r7_gb_30, r7_ga_30, r7_lc_30, r7_lk_30, r7_ln_30, r7_lt_30, r7_ll_30, r7_lr_30, r7_tw_30, r7_tn_30, r7_tt_30⟩, hL7⟩ : ∃ z, z = f_L_law_L30 xs L 41 j3 (0 : Int32) (0 : Int32) (0 : Int32) u1_0 u1_1 u1_2 u1_3 u1_4 u1_5 u1_6 u1_7 u1_8 u1_9 u1_10 u1_11 u1_12 := ⟨_, rfl⟩
    rw [← hL7] at he
    try dsimp only at he
    have hpL7 := hp.1
    replace hp := hp.2 _ _ _ _ _ _ _ _ _ _ _ _ _ _ _ _ _ hL7.symm
    have kont7 : ∀ (x7_v30_2 : Int32) (x7_v30_3 : Int32) (x7_xr_30 : Int32) (x7_xt_30 : Int32) (x7_gn_30 : AA) (x7_gu_30 : AA) (x7_gb_30 : AA) (x7_ga_30 : AA) (x7_lc_30 : Int32) (x7_lk_30 : AA) (x7_ln_30 : AA) (x7_lt_30 : AA) (x7_ll_30 : AA) (x7_lr_30 : AA) (x7_tw_30 : Int32) (x7_tn_30 : AA) (x7_tt_30 : AA), (r7_v30_2, r7_v30_3, r7_xr_30, r7_xt_30, r7_gn_30, r7_gu_30, r7_gb_30, r7_ga_30, r7_lc_30, r7_lk_30, r7_ln_30, r7_lt_30, r7_ll_30, r7_lr_30, r7_tw_30, r7_tn_30, r7_tt_30) = (x7_v30_2, x7_v30_3, x7_xr_30, x7_xt_30, x7_gn_30, x7_gu_30, x7_gb_30, x7_ga_30, x7_lc_30, x7_lk_30, x7_ln_30, x7_lt_30, x7_ll_30, x7_lr_30, x7_tw_30, x7_tn_30, x7_tt_30) → ∀ (H : Heap) (locs : List Loc), va_P D vwCl (W_X4 cI q0 n1_0 n1_1 n1_2 n1_3 n1_4 n1_5 n1_6 n1_7 n1_8 n1_9 n1_10 n1_11 n1_12 n1_13 x7_xr_30 x7_xt_30 x7_gn_30 x7_gu_30 x7_gb_30 x7_ga_30 x7_lc_30 x7_lk_30 x7_ln_30 x7_lt_30 x7_ll_30 x7_lr_30 x7_tw_30 x7_tn_30 x7_tt_30) H → va_D A (W_X4 cI q0 n1_0 n1_1 n1_2 n1_3 n1_4 n1_5 n1_6 n1_7 n1_8 n1_9 n1_10 n1_11 n1_12 n1_13 x7_xr_30 x7_xt_30 x7_gn_30 x7_gu_30 x7_gb_30 x7_ga_30 x7_lc_30 x7_lk_30 x7_ln_30 x7_lt_30 x7_ll_30 x7_lr_30 x7_tw_30 x7_tn_30 x7_tt_30) → va_S A s.heap H locs → ∀ ls : Array Slot, lv_has ls 10 [(2, .int x7_v30_2), (1, .ref q0)] → W p l e room_1 s m #[Value.ref b0] below meth c H locs 670663 4013353 (lw_Z below #[Value.ref b0] s) (F0 m 437 ls []) := by
      intro x7_v30_2 x7_v30_3 x7_xr_30 x7_xt_30 x7_gn_30 x7_gu_30 x7_gb_30 x7_ga_30 x7_lc_30 x7_lk_30 x7_ln_30 x7_lt_30 x7_ll_30 x7_lr_30 x7_tw_30 x7_tn_30 x7_tt_30 hxe H locs hP hD hS ls hl
      simp only [Prod.mk.injEq] at hxe
      obtain ⟨rfl, rfl, rfl, rfl, rfl, rfl, rfl, rfl, rfl, rfl, rfl, rfl, rfl, rfl, rfl, rfl, rfl⟩ := hxe
      refine lv_iload_n hx hb dL_law_437 rfl (lv_at hl 0 rfl) ?_
      obtain ⟨j160, hJ160⟩ : ∃ z : Int32, z = (if r7_v30_2 = 0 then (0 : Int32) else (if (f_L_hangs r7_gn_30 r7_gb_30) = 0 then (0 : Int32) else (if (f_L_causes r7_xr_30 r7_gn_30 r7_gu_30 r7_gb_30 r7_ga_30 r7_tn_30) = 0 then (0 : Int32) else (1 : Int32)))) := ⟨_, rfl⟩
      rw [← hJ160] at he
      try dsimp only at he
      have hpJ160 := hp.1
      replace hp := hp.2 _  hJ160.symm
      have kont160 : (j160 = 0 ∨ j160 = 1) → ∀ (H : Heap) (locs : List Loc), va_P D vwCl (W_X4 cI q0 n1_0 n1_1 n1_2 n1_3 n1_4 n1_5 n1_6 n1_7 n1_8 n1_9 n1_10 n1_11 n1_12 n1_13 r7_xr_30 r7_xt_30 r7_gn_30 r7_gu_30 r7_gb_30 r7_ga_30 r7_lc_30 r7_lk_30 r7_ln_30 r7_lt_30 r7_ll_30 r7_lr_30 r7_tw_30 r7_tn_30 r7_tt_30) H → va_D A (W_X4 cI q0 n1_0 n1_1 n1_2 n1_3 n1_4 n1_5 n1_6 n1_7 n1_8 n1_9 n1_10 n1_11 n1_12 n1_13 r7_xr_30 r7_xt_30 r7_gn_30 r7_gu_30 r7_gb_30 r7_ga_30 r7_lc_30 r7_lk_30 r7_ln_30 r7_lt_30 r7_ll_30 r7_lr_30 r7_tw_30 r7_tn_30 r7_tt_30) → va_S A s.heap H locs → ∀ ls : Array Slot, lv_has ls 10 [] → W p l e room_1 s m #[Value.ref b0] below meth c H locs 686623 4108824 (lw_Z below #[Value.ref b0] s) (F0 m 460 ls [.int j160]) := by
        intro hb160 H locs hP hD hS ls hl
        subst he
        refine va_forget (fun q hq => hAle _ (hS.2.2 q hq)) ?_
        refine W.widen (k := 918419) (n := 6345925) (by omega) (by omega) ?_
        exact lw_ret hx hb hr hlocks dL_law_460
      replace he := hJ160
      replace hp := hpJ160
      refine lv_if_eq (tgt := 459) hx hb dL_law_438 (by decide) (fun c161 => ?_) (fun c161 => ?_)
      · replace hp := hp.1 c161
        replace he := he.trans (if_pos c161)
        refine lv_iconst (v := 0) hx hb dL_law_459 (by decide) ?_
        subst he
        refine W.widen (k := 686623) (n := 4108824) (by omega) (by omega) ?_
        exact kont160 (Or.inl rfl) _ _ hP hD hS _ (lv_sub hl [] rfl)
      · replace hp := hp.2 c161
        replace he := he.trans (if_neg c161)
        refine lv_aload_n hx hb dL_law_441 rfl (lv_at hl 1 rfl) ?_
        have hq162 := hp.1
        replace hp := hp.2
        refine k_ycalli (S := Unit) (wc := (W_X4 cI q0 n1_0 n1_1 n1_2 n1_3 n1_4 n1_5 n1_6 n1_7 n1_8 n1_9 n1_10 n1_11 n1_12 n1_13 r7_xr_30 r7_xt_30 r7_gn_30 r7_gu_30 r7_gb_30 r7_ga_30 r7_lc_30 r7_lk_30 r7_ln_30 r7_lt_30 r7_ll_30 r7_lr_30 r7_tw_30 r7_tn_30 r7_tt_30)) (wr := ([] : va_W)) (w1 := fun u => (W_X4 cI q0 n1_0 n1_1 n1_2 n1_3 n1_4 n1_5 n1_6 n1_7 n1_8 n1_9 n1_10 n1_11 n1_12 n1_13 r7_xr_30 r7_xt_30 r7_gn_30 r7_gu_30 r7_gb_30 r7_ga_30 r7_lc_30 r7_lk_30 r7_ln_30 r7_lt_30 r7_ll_30 r7_lr_30 r7_tw_30 r7_tn_30 r7_tt_30)) (fun u => (W_X4 cI q0 n1_0 n1_1 n1_2 n1_3 n1_4 n1_5 n1_6 n1_7 n1_8 n1_9 n1_10 n1_11 n1_12 n1_13 r7_xr_30 r7_xt_30 r7_gn_30 r7_gu_30 r7_gb_30 r7_ga_30 r7_lc_30 r7_lk_30 r7_ln_30 r7_lt_30 r7_ll_30 r7_lr_30 r7_tw_30 r7_tn_30 r7_tt_30)) hP (hK.sub [0] rfl) hD hN hXB hS hA [0, 1, 2, 3, 4, 5, 6, 7, 8, 9, 10, 11, 12, 13, 14] [] rfl rfl (by decide) (by decide) (by decide) [0, 1, 2, 3, 4, 5, 6, 7, 8, 9, 10, 11, 12, 13, 14] (by decide) (fun _ => rfl) (fun hg => va_runS (As := [.ref q0]) (rest := []) ⟨hx, hb, hml, hown, hts⟩ (c_L_hangs l D cI q0 n1_0 n1_1 n1_2 n1_3 n1_4 n1_5 n1_6 n1_7 n1_8 n1_9 n1_10 n1_11 n1_12 n1_13 r7_xr_30 r7_xt_30 r7_gn_30 r7_gu_30 r7_gb_30 r7_ga_30 r7_lc_30 r7_lk_30 r7_ln_30 r7_lt_30 r7_ll_30 r7_lr_30 r7_tw_30 r7_tn_30 r7_tt_30 _ hq162 hst) (va_cwS 1 hts gL_law_L_hangs rfl rfl rfl (by decide +kernel) ⟨Nat.le_of_ble_eq_true rfl, Nat.le_of_ble_eq_true rfl⟩) ⟨PX.blind, fun U hU hW => ⟨rfl, hg U hU hW⟩⟩ rfl rfl hl.1 rfl (lv_room ((by exact Nat.le_of_ble_eq_true rfl))) dL_law_442 ⟨(by show 670663 + 14865 ≤ 918419; omega), (by show 4013353 + 89190 ≤ 6345925; omega)⟩) (fun r162 u H locs hw hP hD hS => ?_)
        obtain ⟨hw, hb162⟩ := hw
        subst hw
        refine lv_if_eq (tgt := 459) hx hb dL_law_445 (by decide) (fun c163 => ?_) (fun c163 => ?_)
        · replace hp := hp.1 c163
          replace he := he.trans (if_pos c163)
          refine lv_iconst (v := 0) hx hb dL_law_459 (by decide) ?_
          subst he
          refine W.widen (k := 686623) (n := 4108824) (by omega) (by omega) ?_
          exact kont160 (Or.inl rfl) _ _ hP hD hS _ (lv_sub hl [] rfl)
        · replace hp := hp.2 c163
          replace he := he.trans (if_neg c163)
          refine lv_aload_n hx hb dL_law_448 rfl (lv_at hl 1 rfl) ?_
          have hq164 := hp.1
          replace hp := hp.2
          refine k_ycalli (S := Unit) (wc := (W_X4 cI q0 n1_0 n1_1 n1_2 n1_3 n1_4 n1_5 n1_6 n1_7 n1_8 n1_9 n1_10 n1_11 n1_12 n1_13 r7_xr_30 r7_xt_30 r7_gn_30 r7_gu_30 r7_gb_30 r7_ga_30 r7_lc_30 r7_lk_30 r7_ln_30 r7_lt_30 r7_ll_30 r7_lr_30 r7_tw_30 r7_tn_30 r7_tt_30)) (wr := ([] : va_W)) (w1 := fun u => (W_X4 cI q0 n1_0 n1_1 n1_2 n1_3 n1_4 n1_5 n1_6 n1_7 n1_8 n1_9 n1_10 n1_11 n1_12 n1_13 r7_xr_30 r7_xt_30 r7_gn_30 r7_gu_30 r7_gb_30 r7_ga_30 r7_lc_30 r7_lk_30 r7_ln_30 r7_lt_30 r7_ll_30 r7_lr_30 r7_tw_30 r7_tn_30 r7_tt_30)) (fun u => (W_X4 cI q0 n1_0 n1_1 n1_2 n1_3 n1_4 n1_5 n1_6 n1_7 n1_8 n1_9 n1_10 n1_11 n1_12 n1_13 r7_xr_30 r7_xt_30 r7_gn_30 r7_gu_30 r7_gb_30 r7_ga_30 r7_lc_30 r7_lk_30 r7_ln_30 r7_lt_30 r7_ll_30 r7_lr_30 r7_tw_30 r7_tn_30 r7_tt_30)) hP (hK.sub [0] rfl) hD hN hXB hS hA [0, 1, 2, 3, 4, 5, 6, 7, 8, 9, 10, 11, 12, 13, 14] [] rfl rfl (by decide) (by decide) (by decide) [0, 1, 2, 3, 4, 5, 6, 7, 8, 9, 10, 11, 12, 13, 14] (by decide) (fun _ => rfl) (fun hg => va_runS (As := [.ref q0]) (rest := []) ⟨hx, hb, hml, hown, hts⟩ (c_L_causes l D cI q0 n1_0 n1_1 n1_2 n1_3 n1_4 n1_5 n1_6 n1_7 n1_8 n1_9 n1_10 n1_11 n1_12 n1_13 r7_xr_30 r7_xt_30 r7_gn_30 r7_gu_30 r7_gb_30 r7_ga_30 r7_lc_30 r7_lk_30 r7_ln_30 r7_lt_30 r7_ll_30 r7_lr_30 r7_tw_30 r7_tn_30 r7_tt_30 _ hq164 hst) (va_cwS 1 hts gL_law_L_causes rfl rfl rfl (by decide +kernel) ⟨Nat.le_of_ble_eq_true rfl, Nat.le_of_ble_eq_true rfl⟩) ⟨PX.blind, fun U hU hW => ⟨rfl, hg U hU hW⟩⟩ rfl rfl hl.1 rfl (lv_room ((by exact Nat.le_of_ble_eq_true rfl))) dL_law_449 ⟨(by show 685528 + 1095 ≤ 918419; omega), (by show 4102543 + 6281 ≤ 6345925; omega)⟩) (fun r164 u H locs hw hP hD hS => ?_)
          obtain ⟨hw, hb164⟩ := hw
          subst hw
          refine lv_if_eq (tgt := 459) hx hb dL_law_452 (by decide) (fun c165 => ?_) (fun c165 => ?_)
          · replace hp := hp.1 c165
            replace he := he.trans (if_pos c165)
            refine lv_iconst (v := 0) hx hb dL_law_459 (by decide) ?_
            subst he
            exact kont160 (Or.inl rfl) _ _ hP hD hS _ (lv_sub hl [] rfl)
          · replace hp := hp.2 c165
            replace he := he.trans (if_neg c165)
            refine lv_iconst (v := 1) hx hb dL_law_455 (by decide) ?_
            refine lv_goto (tgt := 460) hx hb dL_law_456 (by decide) ?_
            subst he
            exact kont160 (Or.inr rfl) _ _ hP hD hS _ (lv_sub hl [] rfl)
    have loop7 : ∀ (n : Nat) (v30_2 : Int32) (v30_3 : Int32) (xr_30 : Int32) (xt_30 : Int32) (gn_30 : AA) (gu_30 : AA) (gb_30 : AA) (ga_30 : AA) (lc_30 : Int32) (lk_30 : AA) (ln_30 : AA) (lt_30 : AA) (ll_30 : AA) (lr_30 : AA) (tw_30 : Int32) (tn_30 : AA) (tt_30 : AA), ∀ (kc30 ks30 : Nat), kc30 + n * 15968 ≤ 670663 → ks30 + n * 95519 ≤ 4013353 → p_L_law_L30 xs L n v30_2 v30_3 xr_30 xt_30 gn_30 gu_30 gb_30 ga_30 lc_30 lk_30 ln_30 lt_30 ll_30 lr_30 tw_30 tn_30 tt_30 → (r7_v30_2, r7_v30_3, r7_xr_30, r7_xt_30, r7_gn_30, r7_gu_30, r7_gb_30, r7_ga_30, r7_lc_30, r7_lk_30, r7_ln_30, r7_lt_30, r7_ll_30, r7_lr_30, r7_tw_30, r7_tn_30, r7_tt_30) = f_L_law_L30 xs L n v30_2 v30_3 xr_30 xt_30 gn_30 gu_30 gb_30 ga_30 lc_30 lk_30 ln_30 lt_30 ll_30 lr_30 tw_30 tn_30 tt_30 → ∀ (H : Heap) (locs : List Loc), va_P D vwCl (W_X4 cI q0 n1_0 n1_1 n1_2 n1_3 n1_4 n1_5 n1_6 n1_7 n1_8 n1_9 n1_10 n1_11 n1_12 n1_13 xr_30 xt_30 gn_30 gu_30 gb_30 ga_30 lc_30 lk_30 ln_30 lt_30 ll_30 lr_30 tw_30 tn_30 tt_30) H → va_D A (W_X4 cI q0 n1_0 n1_1 n1_2 n1_3 n1_4 n1_5 n1_6 n1_7 n1_8 n1_9 n1_10 n1_11 n1_12 n1_13 xr_30 xt_30 gn_30 gu_30 gb_30 ga_30 lc_30 lk_30 ln_30 lt_30 ll_30 lr_30 tw_30 tn_30 tt_30) → va_S A s.heap H locs → ∀ ls : Array Slot, lv_has ls 10 [(3, .int v30_3), (2, .int v30_2), (1, .ref q0), (0, .ref b0)] → W p l e room_1 s m #[Value.ref b0] below meth c H locs kc30 ks30 (lw_Z below #[Value.ref b0] s) (F0 m 30 ls []) := by
      intro n
      induction n with
      | zero => exact fun _ _ _ _ _ _ _ _ _ _ _ _ _ _ _ _ _ _ _ _ _ hp => hp.elim
      | succ n ih =>
        intro v30_2 v30_3 xr_30 xt_30 gn_30 gu_30 gb_30 ga_30 lc_30 lk_30 ln_30 lt_30 ll_30 lr_30 tw_30 tn_30 tt_30 kc30 ks30 hkc30 hks30 hp he H locs hP hD hS ls hl
        replace hp := Eq.mp (p_L_law_L30.eq_2 ..) hp
        replace he := he.trans (f_L_law_L30.eq_2 ..)
        refine lv_iload_n hx hb dL_law_30 rfl (lv_at hl 0 rfl) ?_
        refine lv_bipush (v := 40) hx hb dL_law_31 (by decide) ?_
        refine lv_icmp_ge (tgt := 437) hx hb dL_law_33 (by decide) (fun c8 => ?_) (fun c8 => ?_)
        · replace hp := hp.1 c8
          replace he := he.trans (if_pos c8)
          refine W.widen (k := 670663) (n := 4013353) (by omega) (by omega) ?_
          exact kont7 _ _ _ _ _ _ _ _ _ _ _ _ _ _ _ _ _ he _ _ hP hD hS _ (lv_sub hl [1, 2] rfl)
        · replace hp := hp.2 c8
          replace he := he.trans (if_neg c8)
          refine lv_iload_n hx hb dL_law_36 rfl (lv_at hl 1 rfl) ?_
          refine lv_if_eq (tgt := 437) hx hb dL_law_37 (by decide) (fun c9 => ?_) (fun c9 => ?_)
          · replace hp := hp.1 c9
            replace he := he.trans (if_pos c9)
            refine W.widen (k := 670663) (n := 4013353) (by omega) (by omega) ?_
            exact kont7 _ _ _ _ _ _ _ _ _ _ _ _ _ _ _ _ _ he _ _ hP hD hS _ (lv_sub hl [1, 2] rfl)
          · replace hp := hp.2 c9
            replace he := he.trans (if_neg c9)
            refine lv_aload_n hx hb dL_law_40 rfl (lv_at hl 3 rfl) ?_
            refine lv_iload_n hx hb dL_law_41 rfl (lv_at hl 0 rfl) ?_
            have hq10 := hp.1
            replace hp := hp.2
            refine k_calli (S := Unit) (wc := ([] : va_W)) (wr := (W_X4 cI q0 n1_0 n1_1 n1_2 n1_3 n1_4 n1_5 n1_6 n1_7 n1_8 n1_9 n1_10 n1_11 n1_12 n1_13 xr_30 xt_30 gn_30 gu_30 gb_30 ga_30 lc_30 lk_30 ln_30 lt_30 ll_30 lr_30 tw_30 tn_30 tt_30)) (w1 := fun u => ([] : va_W)) (fun u => (W_X4 cI q0 n1_0 n1_1 n1_2 n1_3 n1_4 n1_5 n1_6 n1_7 n1_8 n1_9 n1_10 n1_11 n1_12 n1_13 xr_30 xt_30 gn_30 gu_30 gb_30 ga_30 lc_30 lk_30 ln_30 lt_30 ll_30 lr_30 tw_30 tn_30 tt_30)) hP (hK.sub [0] rfl) hD hN hS hA [] [0, 1, 2, 3, 4, 5, 6, 7, 8, 9, 10, 11, 12, 13, 14] rfl rfl (by decide) (by decide) (by decide) [0, 1, 2, 3, 4, 5, 6, 7, 8, 9, 10, 11, 12, 13, 14] (by decide) (fun _ => rfl) (fun hg => va_runS (As := [.ref b0, .int v30_3]) (rest := []) ⟨hx, hb, hml, hown, hts⟩ (c_L_cell l D cI b0 L xs _ v30_3 hq10) (va_cwS 2 hts gL_law_L_cell rfl rfl rfl (by decide +kernel) ⟨Nat.le_of_ble_eq_true rfl, Nat.le_of_ble_eq_true rfl⟩) ⟨PS.blind, fun U hU hW => ⟨rfl, hg U hU hW, Nat.lt_of_lt_of_le hbl hS.1, by rw [hU]; exact (va_X.moved hW.alike hX).kept (hS.2.1 _ hbl hbA)⟩⟩ rfl rfl hl.1 rfl (lv_room ((by exact Nat.le_of_ble_eq_true rfl))) dL_law_42 ⟨(by show kc30 + 0 ≤ 918419; omega), (by show ks30 + 0 ≤ 6345925; omega)⟩) (fun r10 u H locs hw hP hD hS => ?_)
            subst hw
            refine lv_istore (lv' := [(4, .int (f_L_cell L xs v30_3)), (3, .int v30_3), (2, .int v30_2), (1, .ref q0), (0, .ref b0)]) hx hb dL_law_45 hl (by decide) rfl (fun ls hl => ?_)
            refine lv_iload hx hb dL_law_47 (lv_at hl 0 rfl) ?_
            refine lv_bipush (v := 8) hx hb dL_law_49 (by decide) ?_
            refine lv_idiv hx hb dL_law_51 (by decide) ?_
            refine lv_istore (lv' := [(5, .int ((f_L_cell L xs v30_3) / 8)), (4, .int (f_L_cell L xs v30_3)), (3, .int v30_3), (2, .int v30_2), (1, .ref q0), (0, .ref b0)]) hx hb dL_law_52 hl (by decide) rfl (fun ls hl => ?_)
            refine lv_iload hx hb dL_law_54 (lv_at hl 0 rfl) ?_
            refine lv_bipush (v := 14) hx hb dL_law_56 (by decide) ?_
            refine lv_irem hx hb dL_law_58 (by decide) ?_
            refine lv_istore (lv' := [(6, .int (((f_L_cell L xs v30_3) / 8) - ((f_L_cell L xs v30_3) / 8) / 14 * 14)), (5, .int ((f_L_cell L xs v30_3) / 8)), (4, .int (f_L_cell L xs v30_3)), (3, .int v30_3), (2, .int v30_2), (1, .ref q0), (0, .ref b0)]) hx hb dL_law_59 hl (by decide) rfl (fun ls hl => ?_)
            refine lv_iload hx hb dL_law_61 (lv_at hl 1 rfl) ?_
            refine lv_bipush (v := 14) hx hb dL_law_63 (by decide) ?_
            refine lv_idiv hx hb dL_law_65 (by decide) ?_
            refine lv_bipush (v := 14) hx hb dL_law_66 (by decide) ?_
            refine lv_irem hx hb dL_law_68 (by decide) ?_
            refine lv_topi (fun y11_7 hy11 => ?_)
            rw [← hy11] at he
            try dsimp only at he
            replace hp := hp y11_7 hy11.symm
            refine lv_istore (lv' := [(7, .int y11_7), (6, .int (((f_L_cell L xs v30_3) / 8) - ((f_L_cell L xs v30_3) / 8) / 14 * 14)), (5, .int ((f_L_cell L xs v30_3) / 8)), (4, .int (f_L_cell L xs v30_3)), (3, .int v30_3), (2, .int v30_2), (1, .ref q0), (0, .ref b0)]) hx hb dL_law_69 hl (by decide) rfl (fun ls hl => ?_)
            refine lv_iload hx hb dL_law_71 (lv_at hl 3 rfl) ?_
            refine lv_bipush (v := 8) hx hb dL_law_73 (by decide) ?_
            refine lv_irem hx hb dL_law_75 (by decide) ?_
            refine lv_iconst (v := 2) hx hb dL_law_76 (by decide) ?_
            refine lv_icmp_lt (tgt := 86) hx hb dL_law_77 (by decide) (fun c12 => ?_) (fun c12 => ?_)
            · replace hp := hp.1 c12
              replace he := he.trans (if_pos c12)
              refine lv_iload hx hb dL_law_86 (lv_at hl 1 rfl) ?_
              refine lv_iload hx hb dL_law_88 (lv_at hl 0 rfl) ?_
              obtain ⟨j13, hJ13⟩ : ∃ z : Int32, z = (if (((f_L_cell L xs v30_3) / 8) - ((f_L_cell L xs v30_3) / 8) / 14 * 14) = y11_7 then (0 : Int32) else (if (f_L_depends gb_30 y11_7 (((f_L_cell L xs v30_3) / 8) - ((f_L_cell L xs v30_3) / 8) / 14 * 14)) = 0 then (1 : Int32) else (0 : Int32))) := ⟨_, rfl⟩
              rw [← hJ13] at he
              try dsimp only at he
              have hpJ13 := hp.1
              replace hp := hp.2 _  hJ13.symm
              have kont13 : (j13 = 0 ∨ j13 = 1) → ∀ (H : Heap) (locs : List Loc), va_P D vwCl (W_X4 cI q0 n1_0 n1_1 n1_2 n1_3 n1_4 n1_5 n1_6 n1_7 n1_8 n1_9 n1_10 n1_11 n1_12 n1_13 xr_30 xt_30 gn_30 gu_30 gb_30 ga_30 lc_30 lk_30 ln_30 lt_30 ll_30 lr_30 tw_30 tn_30 tt_30) H → va_D A (W_X4 cI q0 n1_0 n1_1 n1_2 n1_3 n1_4 n1_5 n1_6 n1_7 n1_8 n1_9 n1_10 n1_11 n1_12 n1_13 xr_30 xt_30 gn_30 gu_30 gb_30 ga_30 lc_30 lk_30 ln_30 lt_30 ll_30 lr_30 tw_30 tn_30 tt_30) → va_S A s.heap H locs → ∀ ls : Array Slot, lv_has ls 10 [(7, .int y11_7), (6, .int (((f_L_cell L xs v30_3) / 8) - ((f_L_cell L xs v30_3) / 8) / 14 * 14)), (3, .int v30_3), (1, .ref q0), (0, .ref b0)] → W p l e room_1 s m #[Value.ref b0] below meth c H locs (kc30 + 2) (ks30 + 12) (lw_Z below #[Value.ref b0] s) (F0 m 109 ls [.int j13]) := by
                intro hb13 H locs hP hD hS ls hl
                refine lv_istore (lv' := [(8, .int j13), (7, .int y11_7), (6, .int (((f_L_cell L xs v30_3) / 8) - ((f_L_cell L xs v30_3) / 8) / 14 * 14)), (3, .int v30_3), (1, .ref q0), (0, .ref b0)]) hx hb dL_law_109 hl (by decide) rfl (fun ls hl => ?_)
                refine lv_aload_n hx hb dL_law_111 rfl (lv_at hl 4 rfl) ?_
                refine lv_iload hx hb dL_law_112 (lv_at hl 2 rfl) ?_
                refine lv_iload hx hb dL_law_114 (lv_at hl 1 rfl) ?_
                have hq17 := hp.1
                replace hp := hp.2
                refine k_ycalli (S := AA × AA × AA × AA) (wc := (W_X4 cI q0 n1_0 n1_1 n1_2 n1_3 n1_4 n1_5 n1_6 n1_7 n1_8 n1_9 n1_10 n1_11 n1_12 n1_13 xr_30 xt_30 gn_30 gu_30 gb_30 ga_30 lc_30 lk_30 ln_30 lt_30 ll_30 lr_30 tw_30 tn_30 tt_30)) (wr := ([] : va_W)) (w1 := fun u => (W_X4 cI q0 n1_0 n1_1 n1_2 n1_3 n1_4 n1_5 n1_6 n1_7 n1_8 n1_9 n1_10 n1_11 n1_12 n1_13 xr_30 xt_30 u.1 u.2.1 u.2.2.1 u.2.2.2 lc_30 lk_30 ln_30 lt_30 ll_30 lr_30 tw_30 tn_30 tt_30)) (fun u => (W_X4 cI q0 n1_0 n1_1 n1_2 n1_3 n1_4 n1_5 n1_6 n1_7 n1_8 n1_9 n1_10 n1_11 n1_12 n1_13 xr_30 xt_30 u.1 u.2.1 u.2.2.1 u.2.2.2 lc_30 lk_30 ln_30 lt_30 ll_30 lr_30 tw_30 tn_30 tt_30)) hP (hK.sub [0] rfl) hD hN hXB hS hA [0, 1, 2, 3, 4, 5, 6, 7, 8, 9, 10, 11, 12, 13, 14] [] rfl rfl (by decide) (by decide) (by decide) [0, 1, 2, 3, 4, 5, 6, 7, 8, 9, 10, 11, 12, 13, 14] (by decide) (fun _ => rfl) (fun hg => vx_runSW (As := [.ref q0, .int (((f_L_cell L xs v30_3) / 8) - ((f_L_cell L xs v30_3) / 8) / 14 * 14), .int y11_7]) (rest := []) ⟨hx, hb, hml, hown, hts⟩ (c_L_need l D cI q0 n1_0 n1_1 n1_2 n1_3 n1_4 n1_5 n1_6 n1_7 n1_8 n1_9 n1_10 n1_11 n1_12 n1_13 xr_30 xt_30 gn_30 gu_30 gb_30 ga_30 lc_30 lk_30 ln_30 lt_30 ll_30 lr_30 tw_30 tn_30 tt_30 _ (((f_L_cell L xs v30_3) / 8) - ((f_L_cell L xs v30_3) / 8) / 14 * 14) y11_7 hq17 hst) (vx_cwSW 3 hts gL_law_L_need rfl rfl rfl (by decide +kernel) ⟨Nat.le_of_ble_eq_true rfl, Nat.le_of_ble_eq_true rfl⟩) ⟨PX.blind, fun U hU hW => ⟨rfl, hg U hU hW⟩⟩ rfl rfl hl.1 rfl (lv_room ((by exact Nat.le_of_ble_eq_true rfl))) dL_law_116 ⟨(by show (kc30 + 2) + 3 ≤ 918419; omega), (by show (ks30 + 12) + 18 ≤ 6345925; omega)⟩) (fun r17 u H locs hw hP hD hS => ?_)
                obtain ⟨u17_0, u17_1, u17_2, u17_3⟩ := u
                rw [hw] at he
                try dsimp only at he
                replace hp := hp r17 u17_0 u17_1 u17_2 u17_3 hw
                have hP : va_P D vwCl (W_X4 cI q0 n1_0 n1_1 n1_2 n1_3 n1_4 n1_5 n1_6 n1_7 n1_8 n1_9 n1_10 n1_11 n1_12 n1_13 xr_30 xt_30 u17_0 u17_1 u17_2 u17_3 lc_30 lk_30 ln_30 lt_30 ll_30 lr_30 tw_30 tn_30 tt_30) H := hP
                have hD : va_D A (W_X4 cI q0 n1_0 n1_1 n1_2 n1_3 n1_4 n1_5 n1_6 n1_7 n1_8 n1_9 n1_10 n1_11 n1_12 n1_13 xr_30 xt_30 u17_0 u17_1 u17_2 u17_3 lc_30 lk_30 ln_30 lt_30 ll_30 lr_30 tw_30 tn_30 tt_30) := hD
                obtain ⟨j18, hJ18⟩ : ∃ z : Int32, z = (if r17 < 0 then (0 : Int32) else (1 : Int32)) := ⟨_, rfl⟩
                rw [← hJ18] at he
                try dsimp only at he
                have hpJ18 := hp.1
                replace hp := hp.2 _  hJ18.symm
                have kont18 : (j18 = 0 ∨ j18 = 1) → ∀ (H : Heap) (locs : List Loc), va_P D vwCl (W_X4 cI q0 n1_0 n1_1 n1_2 n1_3 n1_4 n1_5 n1_6 n1_7 n1_8 n1_9 n1_10 n1_11 n1_12 n1_13 xr_30 xt_30 u17_0 u17_1 u17_2 u17_3 lc_30 lk_30 ln_30 lt_30 ll_30 lr_30 tw_30 tn_30 tt_30) H → va_D A (W_X4 cI q0 n1_0 n1_1 n1_2 n1_3 n1_4 n1_5 n1_6 n1_7 n1_8 n1_9 n1_10 n1_11 n1_12 n1_13 xr_30 xt_30 u17_0 u17_1 u17_2 u17_3 lc_30 lk_30 ln_30 lt_30 ll_30 lr_30 tw_30 tn_30 tt_30) → va_S A s.heap H locs → ∀ ls : Array Slot, lv_has ls 10 [(8, .int j13), (7, .int y11_7), (6, .int (((f_L_cell L xs v30_3) / 8) - ((f_L_cell L xs v30_3) / 8) / 14 * 14)), (3, .int v30_3), (1, .ref q0), (0, .ref b0)] → W p l e room_1 s m #[Value.ref b0] below meth c H locs (kc30 + 5) (ks30 + 30) (lw_Z below #[Value.ref b0] s) (F0 m 127 ls [.int j18]) := by
                  intro hb18 H locs hP hD hS ls hl
                  refine lv_iload hx hb dL_law_127 (lv_at hl 0 rfl) ?_
                  obtain ⟨j20, hJ20⟩ : ∃ z : Int32, z = (if j18 = j13 then (if (f_L_needs u17_0 (((f_L_cell L xs v30_3) / 8) - ((f_L_cell L xs v30_3) / 8) / 14 * 14) y11_7) = 1 then (1 : Int32) else (if j13 = 0 then (1 : Int32) else (0 : Int32))) else (0 : Int32)) := ⟨_, rfl⟩
                  rw [← hJ20] at he
                  try dsimp only at he
                  have hpJ20 := hp.1
                  replace hp := hp.2 _  hJ20.symm
                  have kont20 : (j20 = 0 ∨ j20 = 1) → ∀ (H : Heap) (locs : List Loc), va_P D vwCl (W_X4 cI q0 n1_0 n1_1 n1_2 n1_3 n1_4 n1_5 n1_6 n1_7 n1_8 n1_9 n1_10 n1_11 n1_12 n1_13 xr_30 xt_30 u17_0 u17_1 u17_2 u17_3 lc_30 lk_30 ln_30 lt_30 ll_30 lr_30 tw_30 tn_30 tt_30) H → va_D A (W_X4 cI q0 n1_0 n1_1 n1_2 n1_3 n1_4 n1_5 n1_6 n1_7 n1_8 n1_9 n1_10 n1_11 n1_12 n1_13 xr_30 xt_30 u17_0 u17_1 u17_2 u17_3 lc_30 lk_30 ln_30 lt_30 ll_30 lr_30 tw_30 tn_30 tt_30) → va_S A s.heap H locs → ∀ ls : Array Slot, lv_has ls 10 [(3, .int v30_3), (1, .ref q0), (0, .ref b0)] → W p l e room_1 s m #[Value.ref b0] below meth c H locs (kc30 + 7) (ks30 + 42) (lw_Z below #[Value.ref b0] s) (F0 m 154 ls [.int j20]) := by
                    intro hb20 H locs hP hD hS ls hl
                    refine lv_istore_n (lv' := [(2, .int j20), (3, .int v30_3), (1, .ref q0), (0, .ref b0)]) hx hb dL_law_154 rfl hl (by decide) rfl (fun ls hl => ?_)
                    refine lv_goto (tgt := 395) hx hb dL_law_155 (by decide) ?_
                    refine lv_iload_n hx hb dL_law_395 rfl (lv_at hl 0 rfl) ?_
                    obtain ⟨j25, hJ25⟩ : ∃ z : Int32, z = (if j20 = 0 then (0 : Int32) else (if 0 < (v30_3 - v30_3 / 5 * 5) then (if 0 < (v30_3 - v30_3 / 3 * 3) then (1 : Int32) else (if (f_L_causes xr_30 u17_0 u17_1 u17_2 u17_3 tn_30) = 0 then (0 : Int32) else (1 : Int32))) else (if (f_L_hangs u17_0 u17_2) = 0 then (0 : Int32) else (if 0 < (v30_3 - v30_3 / 3 * 3) then (1 : Int32) else (if (f_L_causes xr_30 u17_0 u17_1 u17_2 u17_3 tn_30) = 0 then (0 : Int32) else (1 : Int32)))))) := ⟨_, rfl⟩
                    rw [← hJ25] at he
                    try dsimp only at he
                    have hpJ25 := hp.1
                    replace hp := hp.2 _  hJ25.symm
                    have kont25 : (j25 = 0 ∨ j25 = 1) → ∀ (H : Heap) (locs : List Loc), va_P D vwCl (W_X4 cI q0 n1_0 n1_1 n1_2 n1_3 n1_4 n1_5 n1_6 n1_7 n1_8 n1_9 n1_10 n1_11 n1_12 n1_13 xr_30 xt_30 u17_0 u17_1 u17_2 u17_3 lc_30 lk_30 ln_30 lt_30 ll_30 lr_30 tw_30 tn_30 tt_30) H → va_D A (W_X4 cI q0 n1_0 n1_1 n1_2 n1_3 n1_4 n1_5 n1_6 n1_7 n1_8 n1_9 n1_10 n1_11 n1_12 n1_13 xr_30 xt_30 u17_0 u17_1 u17_2 u17_3 lc_30 lk_30 ln_30 lt_30 ll_30 lr_30 tw_30 tn_30 tt_30) → va_S A s.heap H locs → ∀ ls : Array Slot, lv_has ls 10 [(3, .int v30_3), (1, .ref q0), (0, .ref b0)] → W p l e room_1 s m #[Value.ref b0] below meth c H locs (kc30 + 15967) (ks30 + 95513) (lw_Z below #[Value.ref b0] s) (F0 m 430 ls [.int j25]) := by
                      intro hb25 H locs hP hD hS ls hl
                      refine lv_istore_n (lv' := [(2, .int j25), (3, .int v30_3), (1, .ref q0), (0, .ref b0)]) hx hb dL_law_430 rfl hl (by decide) rfl (fun ls hl => ?_)
                      refine lv_iinc (v := (v30_3 + 1)) (lv' := [(3, .int (v30_3 + 1)), (2, .int j25), (1, .ref q0), (0, .ref b0)]) hx hb dL_law_431 hl (k := 1) rfl rfl (by decide) rfl (fun ls hl => ?_)
                      refine lv_goto (tgt := 30) hx hb dL_law_434 (by decide) ?_
                      refine W.widen (k := kc30 + 15968) (n := ks30 + 95519) (by omega) (by omega) ?_
                      exact ih _ _ _ _ _ _ _ _ _ _ _ _ _ _ _ _ _ (kc30 + 15968) (ks30 + 95519) (by omega) (by omega) hp he _ _ hP hD hS _ (lv_sub hl [0, 1, 2, 3] rfl)
                    replace he := hJ25
                    replace hp := hpJ25
                    refine lv_if_eq (tgt := 429) hx hb dL_law_396 (by decide) (fun c26 => ?_) (fun c26 => ?_)
                    · replace hp := hp.1 c26
                      replace he := he.trans (if_pos c26)
                      refine lv_iconst (v := 0) hx hb dL_law_429 (by decide) ?_
                      subst he
                      refine W.widen (k := (kc30 + 15967)) (n := (ks30 + 95513)) (by omega) (by omega) ?_
                      exact kont25 (Or.inl rfl) _ _ hP hD hS _ (lv_sub hl [1, 2, 3] rfl)
                    · replace hp := hp.2 c26
                      replace he := he.trans (if_neg c26)
                      refine lv_iload_n hx hb dL_law_399 rfl (lv_at hl 1 rfl) ?_
                      refine lv_iconst (v := 5) hx hb dL_law_400 (by decide) ?_
                      refine lv_irem hx hb dL_law_401 (by decide) ?_
                      refine lv_if_gt (tgt := 412) hx hb dL_law_402 (by decide) (fun c27 => ?_) (fun c27 => ?_)
                      · replace hp := hp.1 c27
                        replace he := he.trans (if_pos c27)
                        refine lv_iload_n hx hb dL_law_412 rfl (lv_at hl 1 rfl) ?_
                        refine lv_iconst (v := 3) hx hb dL_law_413 (by decide) ?_
                        refine lv_irem hx hb dL_law_414 (by decide) ?_
                        refine lv_if_gt (tgt := 425) hx hb dL_law_415 (by decide) (fun c28 => ?_) (fun c28 => ?_)
                        · replace hp := hp.1 c28
                          replace he := he.trans (if_pos c28)
                          refine lv_iconst (v := 1) hx hb dL_law_425 (by decide) ?_
                          refine lv_goto (tgt := 430) hx hb dL_law_426 (by decide) ?_
                          subst he
                          refine W.widen (k := (kc30 + 15967)) (n := (ks30 + 95513)) (by omega) (by omega) ?_
                          exact kont25 (Or.inr rfl) _ _ hP hD hS _ (lv_sub hl [1, 2, 3] rfl)
                        · replace hp := hp.2 c28
                          replace he := he.trans (if_neg c28)
                          refine lv_aload_n hx hb dL_law_418 rfl (lv_at hl 2 rfl) ?_
                          have hq29 := hp.1
                          replace hp := hp.2
                          refine k_ycalli (S := Unit) (wc := (W_X4 cI q0 n1_0 n1_1 n1_2 n1_3 n1_4 n1_5 n1_6 n1_7 n1_8 n1_9 n1_10 n1_11 n1_12 n1_13 xr_30 xt_30 u17_0 u17_1 u17_2 u17_3 lc_30 lk_30 ln_30 lt_30 ll_30 lr_30 tw_30 tn_30 tt_30)) (wr := ([] : va_W)) (w1 := fun u => (W_X4 cI q0 n1_0 n1_1 n1_2 n1_3 n1_4 n1_5 n1_6 n1_7 n1_8 n1_9 n1_10 n1_11 n1_12 n1_13 xr_30 xt_30 u17_0 u17_1 u17_2 u17_3 lc_30 lk_30 ln_30 lt_30 ll_30 lr_30 tw_30 tn_30 tt_30)) (fun u => (W_X4 cI q0 n1_0 n1_1 n1_2 n1_3 n1_4 n1_5 n1_6 n1_7 n1_8 n1_9 n1_10 n1_11 n1_12 n1_13 xr_30 xt_30 u17_0 u17_1 u17_2 u17_3 lc_30 lk_30 ln_30 lt_30 ll_30 lr_30 tw_30 tn_30 tt_30)) hP (hK.sub [0] rfl) hD hN hXB hS hA [0, 1, 2, 3, 4, 5, 6, 7, 8, 9, 10, 11, 12, 13, 14] [] rfl rfl (by decide) (by decide) (by decide) [0, 1, 2, 3, 4, 5, 6, 7, 8, 9, 10, 11, 12, 13, 14] (by decide) (fun _ => rfl) (fun hg => va_runS (As := [.ref q0]) (rest := []) ⟨hx, hb, hml, hown, hts⟩ (c_L_causes l D cI q0 n1_0 n1_1 n1_2 n1_3 n1_4 n1_5 n1_6 n1_7 n1_8 n1_9 n1_10 n1_11 n1_12 n1_13 xr_30 xt_30 u17_0 u17_1 u17_2 u17_3 lc_30 lk_30 ln_30 lt_30 ll_30 lr_30 tw_30 tn_30 tt_30 _ hq29 hst) (va_cwS 1 hts gL_law_L_causes rfl rfl rfl (by decide +kernel) ⟨Nat.le_of_ble_eq_true rfl, Nat.le_of_ble_eq_true rfl⟩) ⟨PX.blind, fun U hU hW => ⟨rfl, hg U hU hW⟩⟩ rfl rfl hl.1 rfl (lv_room ((by exact Nat.le_of_ble_eq_true rfl))) dL_law_419 ⟨(by show (kc30 + 7) + 1095 ≤ 918419; omega), (by show (ks30 + 42) + 6281 ≤ 6345925; omega)⟩) (fun r29 u H locs hw hP hD hS => ?_)
                          obtain ⟨hw, hb29⟩ := hw
                          subst hw
                          refine lv_if_eq (tgt := 429) hx hb dL_law_422 (by decide) (fun c30 => ?_) (fun c30 => ?_)
                          · replace hp := hp.1 c30
                            replace he := he.trans (if_pos c30)
                            refine lv_iconst (v := 0) hx hb dL_law_429 (by decide) ?_
                            subst he
                            refine W.widen (k := (kc30 + 15967)) (n := (ks30 + 95513)) (by omega) (by omega) ?_
                            exact kont25 (Or.inl rfl) _ _ hP hD hS _ (lv_sub hl [1, 2, 3] rfl)
                          · replace hp := hp.2 c30
                            replace he := he.trans (if_neg c30)
                            refine lv_iconst (v := 1) hx hb dL_law_425 (by decide) ?_
                            refine lv_goto (tgt := 430) hx hb dL_law_426 (by decide) ?_
                            subst he
                            refine W.widen (k := (kc30 + 15967)) (n := (ks30 + 95513)) (by omega) (by omega) ?_
                            exact kont25 (Or.inr rfl) _ _ hP hD hS _ (lv_sub hl [1, 2, 3] rfl)
                      · replace hp := hp.2 c27
                        replace he := he.trans (if_neg c27)
                        refine lv_aload_n hx hb dL_law_405 rfl (lv_at hl 2 rfl) ?_
                        have hq31 := hp.1
                        replace hp := hp.2
                        refine k_ycalli (S := Unit) (wc := (W_X4 cI q0 n1_0 n1_1 n1_2 n1_3 n1_4 n1_5 n1_6 n1_7 n1_8 n1_9 n1_10 n1_11 n1_12 n1_13 xr_30 xt_30 u17_0 u17_1 u17_2 u17_3 lc_30 lk_30 ln_30 lt_30 ll_30 lr_30 tw_30 tn_30 tt_30)) (wr := ([] : va_W)) (w1 := fun u => (W_X4 cI q0 n1_0 n1_1 n1_2 n1_3 n1_4 n1_5 n1_6 n1_7 n1_8 n1_9 n1_10 n1_11 n1_12 n1_13 xr_30 xt_30 u17_0 u17_1 u17_2 u17_3 lc_30 lk_30 ln_30 lt_30 ll_30 lr_30 tw_30 tn_30 tt_30)) (fun u => (W_X4 cI q0 n1_0 n1_1 n1_2 n1_3 n1_4 n1_5 n1_6 n1_7 n1_8 n1_9 n1_10 n1_11 n1_12 n1_13 xr_30 xt_30 u17_0 u17_1 u17_2 u17_3 lc_30 lk_30 ln_30 lt_30 ll_30 lr_30 tw_30 tn_30 tt_30)) hP (hK.sub [0] rfl) hD hN hXB hS hA [0, 1, 2, 3, 4, 5, 6, 7, 8, 9, 10, 11, 12, 13, 14] [] rfl rfl (by decide) (by decide) (by decide) [0, 1, 2, 3, 4, 5, 6, 7, 8, 9, 10, 11, 12, 13, 14] (by decide) (fun _ => rfl) (fun hg => va_runS (As := [.ref q0]) (rest := []) ⟨hx, hb, hml, hown, hts⟩ (c_L_hangs l D cI q0 n1_0 n1_1 n1_2 n1_3 n1_4 n1_5 n1_6 n1_7 n1_8 n1_9 n1_10 n1_11 n1_12 n1_13 xr_30 xt_30 u17_0 u17_1 u17_2 u17_3 lc_30 lk_30 ln_30 lt_30 ll_30 lr_30 tw_30 tn_30 tt_30 _ hq31 hst) (va_cwS 1 hts gL_law_L_hangs rfl rfl rfl (by decide +kernel) ⟨Nat.le_of_ble_eq_true rfl, Nat.le_of_ble_eq_true rfl⟩) ⟨PX.blind, fun U hU hW => ⟨rfl, hg U hU hW⟩⟩ rfl rfl hl.1 rfl (lv_room ((by exact Nat.le_of_ble_eq_true rfl))) dL_law_406 ⟨(by show (kc30 + 7) + 14865 ≤ 918419; omega), (by show (ks30 + 42) + 89190 ≤ 6345925; omega)⟩) (fun r31 u H locs hw hP hD hS => ?_)
                        obtain ⟨hw, hb31⟩ := hw
                        subst hw
                        refine lv_if_eq (tgt := 429) hx hb dL_law_409 (by decide) (fun c32 => ?_) (fun c32 => ?_)
                        · replace hp := hp.1 c32
                          replace he := he.trans (if_pos c32)
                          refine lv_iconst (v := 0) hx hb dL_law_429 (by decide) ?_
                          subst he
                          refine W.widen (k := (kc30 + 15967)) (n := (ks30 + 95513)) (by omega) (by omega) ?_
                          exact kont25 (Or.inl rfl) _ _ hP hD hS _ (lv_sub hl [1, 2, 3] rfl)
                        · replace hp := hp.2 c32
                          replace he := he.trans (if_neg c32)
                          refine lv_iload_n hx hb dL_law_412 rfl (lv_at hl 1 rfl) ?_
                          refine lv_iconst (v := 3) hx hb dL_law_413 (by decide) ?_
                          refine lv_irem hx hb dL_law_414 (by decide) ?_
                          refine lv_if_gt (tgt := 425) hx hb dL_law_415 (by decide) (fun c33 => ?_) (fun c33 => ?_)
                          · replace hp := hp.1 c33
                            replace he := he.trans (if_pos c33)
                            refine lv_iconst (v := 1) hx hb dL_law_425 (by decide) ?_
                            refine lv_goto (tgt := 430) hx hb dL_law_426 (by decide) ?_
                            subst he
                            refine W.widen (k := (kc30 + 15967)) (n := (ks30 + 95513)) (by omega) (by omega) ?_
                            exact kont25 (Or.inr rfl) _ _ hP hD hS _ (lv_sub hl [1, 2, 3] rfl)
                          · replace hp := hp.2 c33
                            replace he := he.trans (if_neg c33)
                            refine lv_aload_n hx hb dL_law_418 rfl (lv_at hl 2 rfl) ?_
                            have hq34 := hp.1
                            replace hp := hp.2
                            refine k_ycalli (S := Unit) (wc := (W_X4 cI q0 n1_0 n1_1 n1_2 n1_3 n1_4 n1_5 n1_6 n1_7 n1_8 n1_9 n1_10 n1_11 n1_12 n1_13 xr_30 xt_30 u17_0 u17_1 u17_2 u17_3 lc_30 lk_30 ln_30 lt_30 ll_30 lr_30 tw_30 tn_30 tt_30)) (wr := ([] : va_W)) (w1 := fun u => (W_X4 cI q0 n1_0 n1_1 n1_2 n1_3 n1_4 n1_5 n1_6 n1_7 n1_8 n1_9 n1_10 n1_11 n1_12 n1_13 xr_30 xt_30 u17_0 u17_1 u17_2 u17_3 lc_30 lk_30 ln_30 lt_30 ll_30 lr_30 tw_30 tn_30 tt_30)) (fun u => (W_X4 cI q0 n1_0 n1_1 n1_2 n1_3 n1_4 n1_5 n1_6 n1_7 n1_8 n1_9 n1_10 n1_11 n1_12 n1_13 xr_30 xt_30 u17_0 u17_1 u17_2 u17_3 lc_30 lk_30 ln_30 lt_30 ll_30 lr_30 tw_30 tn_30 tt_30)) hP (hK.sub [0] rfl) hD hN hXB hS hA [0, 1, 2, 3, 4, 5, 6, 7, 8, 9, 10, 11, 12, 13, 14] [] rfl rfl (by decide) (by decide) (by decide) [0, 1, 2, 3, 4, 5, 6, 7, 8, 9, 10, 11, 12, 13, 14] (by decide) (fun _ => rfl) (fun hg => va_runS (As := [.ref q0]) (rest := []) ⟨hx, hb, hml, hown, hts⟩ (c_L_causes l D cI q0 n1_0 n1_1 n1_2 n1_3 n1_4 n1_5 n1_6 n1_7 n1_8 n1_9 n1_10 n1_11 n1_12 n1_13 xr_30 xt_30 u17_0 u17_1 u17_2 u17_3 lc_30 lk_30 ln_30 lt_30 ll_30 lr_30 tw_30 tn_30 tt_30 _ hq34 hst) (va_cwS 1 hts gL_law_L_causes rfl rfl rfl (by decide +kernel) ⟨Nat.le_of_ble_eq_true rfl, Nat.le_of_ble_eq_true rfl⟩) ⟨PX.blind, fun U hU hW => ⟨rfl, hg U hU hW⟩⟩ rfl rfl hl.1 rfl (lv_room ((by exact Nat.le_of_ble_eq_true rfl))) dL_law_419 ⟨(by show (kc30 + 14872) + 1095 ≤ 918419; omega), (by show (ks30 + 89232) + 6281 ≤ 6345925; omega)⟩) (fun r34 u H locs hw hP hD hS => ?_)
                            obtain ⟨hw, hb34⟩ := hw
                            subst hw
                            refine lv_if_eq (tgt := 429) hx hb dL_law_422 (by decide) (fun c35 => ?_) (fun c35 => ?_)
                            · replace hp := hp.1 c35
                              replace he := he.trans (if_pos c35)
                              refine lv_iconst (v := 0) hx hb dL_law_429 (by decide) ?_
                              subst he
                              exact kont25 (Or.inl rfl) _ _ hP hD hS _ (lv_sub hl [1, 2, 3] rfl)
                            · replace hp := hp.2 c35
                              replace he := he.trans (if_neg c35)
                              refine lv_iconst (v := 1) hx hb dL_law_425 (by decide) ?_
                              refine lv_goto (tgt := 430) hx hb dL_law_426 (by decide) ?_
                              subst he
                              exact kont25 (Or.inr rfl) _ _ hP hD hS _ (lv_sub hl [1, 2, 3] rfl)
                  replace he := hJ20
                  replace hp := hpJ20
                  refine lv_icmp_ne (tgt := 153) hx hb dL_law_129 (by decide) (fun c21 => ?_) (fun c21 => ?_)
                  · replace hp := hp.2 c21
                    replace he := he.trans (if_neg c21)
                    refine lv_iconst (v := 0) hx hb dL_law_153 (by decide) ?_
                    subst he
                    refine W.widen (k := (kc30 + 7)) (n := (ks30 + 42)) (by omega) (by omega) ?_
                    exact kont20 (Or.inl rfl) _ _ hP hD hS _ (lv_sub hl [3, 4, 5] rfl)
                  · replace hp := hp.1 c21
                    replace he := he.trans (if_pos c21)
                    refine lv_aload_n hx hb dL_law_132 rfl (lv_at hl 4 rfl) ?_
                    refine lv_iload hx hb dL_law_133 (lv_at hl 2 rfl) ?_
                    refine lv_iload hx hb dL_law_135 (lv_at hl 1 rfl) ?_
                    have hq22 := hp.1
                    replace hp := hp.2
                    refine k_ycalli (S := Unit) (wc := (W_X4 cI q0 n1_0 n1_1 n1_2 n1_3 n1_4 n1_5 n1_6 n1_7 n1_8 n1_9 n1_10 n1_11 n1_12 n1_13 xr_30 xt_30 u17_0 u17_1 u17_2 u17_3 lc_30 lk_30 ln_30 lt_30 ll_30 lr_30 tw_30 tn_30 tt_30)) (wr := ([] : va_W)) (w1 := fun u => (W_X4 cI q0 n1_0 n1_1 n1_2 n1_3 n1_4 n1_5 n1_6 n1_7 n1_8 n1_9 n1_10 n1_11 n1_12 n1_13 xr_30 xt_30 u17_0 u17_1 u17_2 u17_3 lc_30 lk_30 ln_30 lt_30 ll_30 lr_30 tw_30 tn_30 tt_30)) (fun u => (W_X4 cI q0 n1_0 n1_1 n1_2 n1_3 n1_4 n1_5 n1_6 n1_7 n1_8 n1_9 n1_10 n1_11 n1_12 n1_13 xr_30 xt_30 u17_0 u17_1 u17_2 u17_3 lc_30 lk_30 ln_30 lt_30 ll_30 lr_30 tw_30 tn_30 tt_30)) hP (hK.sub [0] rfl) hD hN hXB hS hA [0, 1, 2, 3, 4, 5, 6, 7, 8, 9, 10, 11, 12, 13, 14] [] rfl rfl (by decide) (by decide) (by decide) [0, 1, 2, 3, 4, 5, 6, 7, 8, 9, 10, 11, 12, 13, 14] (by decide) (fun _ => rfl) (fun hg => vx_runSW (As := [.ref q0, .int (((f_L_cell L xs v30_3) / 8) - ((f_L_cell L xs v30_3) / 8) / 14 * 14), .int y11_7]) (rest := []) ⟨hx, hb, hml, hown, hts⟩ (c_L_needs l D cI q0 n1_0 n1_1 n1_2 n1_3 n1_4 n1_5 n1_6 n1_7 n1_8 n1_9 n1_10 n1_11 n1_12 n1_13 xr_30 xt_30 u17_0 u17_1 u17_2 u17_3 lc_30 lk_30 ln_30 lt_30 ll_30 lr_30 tw_30 tn_30 tt_30 _ (((f_L_cell L xs v30_3) / 8) - ((f_L_cell L xs v30_3) / 8) / 14 * 14) y11_7 hq22 hst) (vx_cwSW 3 hts gL_law_L_needs rfl rfl rfl (by decide +kernel) ⟨Nat.le_of_ble_eq_true rfl, Nat.le_of_ble_eq_true rfl⟩) ⟨PX.blind, fun U hU hW => ⟨rfl, hg U hU hW⟩⟩ rfl rfl hl.1 rfl (lv_room ((by exact Nat.le_of_ble_eq_true rfl))) dL_law_137 ⟨(by show (kc30 + 5) + 2 ≤ 918419; omega), (by show (ks30 + 30) + 12 ≤ 6345925; omega)⟩) (fun r22 u H locs hw hP hD hS => ?_)
                    subst hw
                    refine lv_iconst (v := 1) hx hb dL_law_140 (by decide) ?_
                    refine lv_icmp_eq (tgt := 149) hx hb dL_law_141 (by decide) (fun c23 => ?_) (fun c23 => ?_)
                    · replace hp := hp.1 c23
                      replace he := he.trans (if_pos c23)
                      refine lv_iconst (v := 1) hx hb dL_law_149 (by decide) ?_
                      refine lv_goto (tgt := 154) hx hb dL_law_150 (by decide) ?_
                      subst he
                      exact kont20 (Or.inr rfl) _ _ hP hD hS _ (lv_sub hl [3, 4, 5] rfl)
                    · replace hp := hp.2 c23
                      replace he := he.trans (if_neg c23)
                      refine lv_iload hx hb dL_law_144 (lv_at hl 0 rfl) ?_
                      refine lv_if_ne (tgt := 153) hx hb dL_law_146 (by decide) (fun c24 => ?_) (fun c24 => ?_)
                      · replace hp := hp.2 c24
                        replace he := he.trans (if_neg c24)
                        refine lv_iconst (v := 0) hx hb dL_law_153 (by decide) ?_
                        subst he
                        exact kont20 (Or.inl rfl) _ _ hP hD hS _ (lv_sub hl [3, 4, 5] rfl)
                      · replace hp := hp.1 c24
                        replace he := he.trans (if_pos c24)
                        refine lv_iconst (v := 1) hx hb dL_law_149 (by decide) ?_
                        refine lv_goto (tgt := 154) hx hb dL_law_150 (by decide) ?_
                        subst he
                        exact kont20 (Or.inr rfl) _ _ hP hD hS _ (lv_sub hl [3, 4, 5] rfl)
                replace he := hJ18
                replace hp := hpJ18
                refine lv_if_lt (tgt := 126) hx hb dL_law_119 (by decide) (fun c19 => ?_) (fun c19 => ?_)
                · replace hp := hp.1 c19
                  replace he := he.trans (if_pos c19)
                  refine lv_iconst (v := 0) hx hb dL_law_126 (by decide) ?_
                  subst he
                  exact kont18 (Or.inl rfl) _ _ hP hD hS _ (lv_sub hl [0, 1, 2, 3, 4, 5] rfl)
                · replace hp := hp.2 c19
                  replace he := he.trans (if_neg c19)
                  refine lv_iconst (v := 1) hx hb dL_law_122 (by decide) ?_
                  refine lv_goto (tgt := 127) hx hb dL_law_123 (by decide) ?_
                  subst he
                  exact kont18 (Or.inr rfl) _ _ hP hD hS _ (lv_sub hl [0, 1, 2, 3, 4, 5] rfl)
              replace he := hJ13
              replace hp := hpJ13
              refine lv_icmp_eq (tgt := 108) hx hb dL_law_90 (by decide) (fun c14 => ?_) (fun c14 => ?_)
              · replace hp := hp.1 c14
                replace he := he.trans (if_pos c14)
                refine lv_iconst (v := 0) hx hb dL_law_108 (by decide) ?_
                subst he
                refine W.widen (k := (kc30 + 2)) (n := (ks30 + 12)) (by omega) (by omega) ?_
                exact kont13 (Or.inl rfl) _ _ hP hD hS _ (lv_sub hl [0, 1, 4, 6, 7] rfl)
              · replace hp := hp.2 c14
                replace he := he.trans (if_neg c14)
                refine lv_aload_n hx hb dL_law_93 rfl (lv_at hl 6 rfl) ?_
                refine lv_iload hx hb dL_law_94 (lv_at hl 0 rfl) ?_
                refine lv_iload hx hb dL_law_96 (lv_at hl 1 rfl) ?_
                have hq15 := hp.1
                replace hp := hp.2
                refine k_ycalli (S := Unit) (wc := (W_X4 cI q0 n1_0 n1_1 n1_2 n1_3 n1_4 n1_5 n1_6 n1_7 n1_8 n1_9 n1_10 n1_11 n1_12 n1_13 xr_30 xt_30 gn_30 gu_30 gb_30 ga_30 lc_30 lk_30 ln_30 lt_30 ll_30 lr_30 tw_30 tn_30 tt_30)) (wr := ([] : va_W)) (w1 := fun u => (W_X4 cI q0 n1_0 n1_1 n1_2 n1_3 n1_4 n1_5 n1_6 n1_7 n1_8 n1_9 n1_10 n1_11 n1_12 n1_13 xr_30 xt_30 gn_30 gu_30 gb_30 ga_30 lc_30 lk_30 ln_30 lt_30 ll_30 lr_30 tw_30 tn_30 tt_30)) (fun u => (W_X4 cI q0 n1_0 n1_1 n1_2 n1_3 n1_4 n1_5 n1_6 n1_7 n1_8 n1_9 n1_10 n1_11 n1_12 n1_13 xr_30 xt_30 gn_30 gu_30 gb_30 ga_30 lc_30 lk_30 ln_30 lt_30 ll_30 lr_30 tw_30 tn_30 tt_30)) hP (hK.sub [0] rfl) hD hN hXB hS hA [0, 1, 2, 3, 4, 5, 6, 7, 8, 9, 10, 11, 12, 13, 14] [] rfl rfl (by decide) (by decide) (by decide) [0, 1, 2, 3, 4, 5, 6, 7, 8, 9, 10, 11, 12, 13, 14] (by decide) (fun _ => rfl) (fun hg => vx_runSW (As := [.ref q0, .int y11_7, .int (((f_L_cell L xs v30_3) / 8) - ((f_L_cell L xs v30_3) / 8) / 14 * 14)]) (rest := []) ⟨hx, hb, hml, hown, hts⟩ (c_L_depends l D cI q0 n1_0 n1_1 n1_2 n1_3 n1_4 n1_5 n1_6 n1_7 n1_8 n1_9 n1_10 n1_11 n1_12 n1_13 xr_30 xt_30 gn_30 gu_30 gb_30 ga_30 lc_30 lk_30 ln_30 lt_30 ll_30 lr_30 tw_30 tn_30 tt_30 _ y11_7 (((f_L_cell L xs v30_3) / 8) - ((f_L_cell L xs v30_3) / 8) / 14 * 14) hq15 hst) (vx_cwSW 3 hts gL_law_L_depends rfl rfl rfl (by decide +kernel) ⟨Nat.le_of_ble_eq_true rfl, Nat.le_of_ble_eq_true rfl⟩) ⟨PX.blind, fun U hU hW => ⟨rfl, hg U hU hW⟩⟩ rfl rfl hl.1 rfl (lv_room ((by exact Nat.le_of_ble_eq_true rfl))) dL_law_98 ⟨(by show kc30 + 2 ≤ 918419; omega), (by show ks30 + 12 ≤ 6345925; omega)⟩) (fun r15 u H locs hw hP hD hS => ?_)
                subst hw
                refine lv_if_ne (tgt := 108) hx hb dL_law_101 (by decide) (fun c16 => ?_) (fun c16 => ?_)
                · replace hp := hp.2 c16
                  replace he := he.trans (if_neg c16)
                  refine lv_iconst (v := 0) hx hb dL_law_108 (by decide) ?_
                  subst he
                  exact kont13 (Or.inl rfl) _ _ hP hD hS _ (lv_sub hl [0, 1, 4, 6, 7] rfl)
                · replace hp := hp.1 c16
                  replace he := he.trans (if_pos c16)
                  refine lv_iconst (v := 1) hx hb dL_law_104 (by decide) ?_
                  refine lv_goto (tgt := 109) hx hb dL_law_105 (by decide) ?_
                  subst he
                  exact kont13 (Or.inr rfl) _ _ hP hD hS _ (lv_sub hl [0, 1, 4, 6, 7] rfl)
            · replace hp := hp.2 c12
              replace he := he.trans (if_neg c12)
              refine lv_iload_n hx hb dL_law_80 rfl (lv_at hl 4 rfl) ?_
              refine lv_bipush (v := 10) hx hb dL_law_81 (by decide) ?_
              refine lv_icmp_ge (tgt := 158) hx hb dL_law_83 (by decide) (fun c36 => ?_) (fun c36 => ?_)
              · replace hp := hp.1 c36
                replace he := he.trans (if_pos c36)
                refine lv_iload hx hb dL_law_158 (lv_at hl 3 rfl) ?_
                refine lv_bipush (v := 8) hx hb dL_law_160 (by decide) ?_
                refine lv_irem hx hb dL_law_162 (by decide) ?_
                refine lv_iconst (v := 2) hx hb dL_law_163 (by decide) ?_
                refine lv_icmp_ne (tgt := 210) hx hb dL_law_164 (by decide) (fun c37 => ?_) (fun c37 => ?_)
                · replace hp := hp.2 c37
                  replace he := he.trans (if_neg c37)
                  refine lv_iload hx hb dL_law_210 (lv_at hl 3 rfl) ?_
                  refine lv_bipush (v := 8) hx hb dL_law_212 (by decide) ?_
                  refine lv_irem hx hb dL_law_214 (by decide) ?_
                  refine lv_iconst (v := 3) hx hb dL_law_215 (by decide) ?_
                  refine lv_icmp_ne (tgt := 258) hx hb dL_law_216 (by decide) (fun c38 => ?_) (fun c38 => ?_)
                  · replace hp := hp.2 c38
                    replace he := he.trans (if_neg c38)
                    refine lv_aload_n hx hb dL_law_258 rfl (lv_at hl 6 rfl) ?_
                    refine lv_iload hx hb dL_law_259 (lv_at hl 1 rfl) ?_
                    have hq39 := hp.1
                    replace hp := hp.2
                    refine k_ycalli (S := Unit) (wc := (W_X4 cI q0 n1_0 n1_1 n1_2 n1_3 n1_4 n1_5 n1_6 n1_7 n1_8 n1_9 n1_10 n1_11 n1_12 n1_13 xr_30 xt_30 gn_30 gu_30 gb_30 ga_30 lc_30 lk_30 ln_30 lt_30 ll_30 lr_30 tw_30 tn_30 tt_30)) (wr := ([] : va_W)) (w1 := fun u => (W_X4 cI q0 n1_0 n1_1 n1_2 n1_3 n1_4 n1_5 n1_6 n1_7 n1_8 n1_9 n1_10 n1_11 n1_12 n1_13 xr_30 xt_30 gn_30 gu_30 gb_30 ga_30 lc_30 lk_30 ln_30 lt_30 ll_30 lr_30 tw_30 tn_30 tt_30)) (fun u => (W_X4 cI q0 n1_0 n1_1 n1_2 n1_3 n1_4 n1_5 n1_6 n1_7 n1_8 n1_9 n1_10 n1_11 n1_12 n1_13 xr_30 xt_30 gn_30 gu_30 gb_30 ga_30 lc_30 lk_30 ln_30 lt_30 ll_30 lr_30 tw_30 tn_30 tt_30)) hP (hK.sub [0] rfl) hD hN hXB hS hA [0, 1, 2, 3, 4, 5, 6, 7, 8, 9, 10, 11, 12, 13, 14] [] rfl rfl (by decide) (by decide) (by decide) [0, 1, 2, 3, 4, 5, 6, 7, 8, 9, 10, 11, 12, 13, 14] (by decide) (fun _ => rfl) (fun hg => vx_runSW (As := [.ref q0, .int (((f_L_cell L xs v30_3) / 8) - ((f_L_cell L xs v30_3) / 8) / 14 * 14)]) (rest := []) ⟨hx, hb, hml, hown, hts⟩ (c_L_ticket l D cI q0 n1_0 n1_1 n1_2 n1_3 n1_4 n1_5 n1_6 n1_7 n1_8 n1_9 n1_10 n1_11 n1_12 n1_13 xr_30 xt_30 gn_30 gu_30 gb_30 ga_30 lc_30 lk_30 ln_30 lt_30 ll_30 lr_30 tw_30 tn_30 tt_30 _ (((f_L_cell L xs v30_3) / 8) - ((f_L_cell L xs v30_3) / 8) / 14 * 14) hq39 hst) (vx_cwSW 2 hts gL_law_L_ticket rfl rfl rfl (by decide +kernel) ⟨Nat.le_of_ble_eq_true rfl, Nat.le_of_ble_eq_true rfl⟩) ⟨PX.blind, fun U hU hW => ⟨rfl, hg U hU hW⟩⟩ rfl rfl hl.1 rfl (lv_room ((by exact Nat.le_of_ble_eq_true rfl))) dL_law_261 ⟨(by show kc30 + 1 ≤ 918419; omega), (by show ks30 + 6 ≤ 6345925; omega)⟩) (fun r39 u H locs hw hP hD hS => ?_)
                    subst hw
                    obtain ⟨j40, hJ40⟩ : ∃ z : Int32, z = (if (f_L_ticket tn_30 (((f_L_cell L xs v30_3) / 8) - ((f_L_cell L xs v30_3) / 8) / 14 * 14)) ≤ 0 then (0 : Int32) else (1 : Int32)) := ⟨_, rfl⟩
                    rw [← hJ40] at he
                    try dsimp only at he
                    have hpJ40 := hp.1
                    replace hp := hp.2 _  hJ40.symm
                    have kont40 : (j40 = 0 ∨ j40 = 1) → ∀ (H : Heap) (locs : List Loc), va_P D vwCl (W_X4 cI q0 n1_0 n1_1 n1_2 n1_3 n1_4 n1_5 n1_6 n1_7 n1_8 n1_9 n1_10 n1_11 n1_12 n1_13 xr_30 xt_30 gn_30 gu_30 gb_30 ga_30 lc_30 lk_30 ln_30 lt_30 ll_30 lr_30 tw_30 tn_30 tt_30) H → va_D A (W_X4 cI q0 n1_0 n1_1 n1_2 n1_3 n1_4 n1_5 n1_6 n1_7 n1_8 n1_9 n1_10 n1_11 n1_12 n1_13 xr_30 xt_30 gn_30 gu_30 gb_30 ga_30 lc_30 lk_30 ln_30 lt_30 ll_30 lr_30 tw_30 tn_30 tt_30) → va_S A s.heap H locs → ∀ ls : Array Slot, lv_has ls 10 [(6, .int (((f_L_cell L xs v30_3) / 8) - ((f_L_cell L xs v30_3) / 8) / 14 * 14)), (3, .int v30_3), (1, .ref q0), (0, .ref b0)] → W p l e room_1 s m #[Value.ref b0] below meth c H locs (kc30 + 1) (ks30 + 6) (lw_Z below #[Value.ref b0] s) (F0 m 272 ls [.int j40]) := by
                      intro hb40 H locs hP hD hS ls hl
                      refine lv_istore (lv' := [(8, .int j40), (6, .int (((f_L_cell L xs v30_3) / 8) - ((f_L_cell L xs v30_3) / 8) / 14 * 14)), (3, .int v30_3), (1, .ref q0), (0, .ref b0)]) hx hb dL_law_272 hl (by decide) rfl (fun ls hl => ?_)
                      refine lv_aload_n hx hb dL_law_274 rfl (lv_at hl 3 rfl) ?_
                      refine k_calli (S := Unit) (wc := (W_X4 cI q0 n1_0 n1_1 n1_2 n1_3 n1_4 n1_5 n1_6 n1_7 n1_8 n1_9 n1_10 n1_11 n1_12 n1_13 xr_30 xt_30 gn_30 gu_30 gb_30 ga_30 lc_30 lk_30 ln_30 lt_30 ll_30 lr_30 tw_30 tn_30 tt_30)) (wr := ([] : va_W)) (w1 := fun u => (W_X4 cI q0 n1_0 n1_1 n1_2 n1_3 n1_4 n1_5 n1_6 n1_7 n1_8 n1_9 n1_10 n1_11 n1_12 n1_13 xr_30 xt_30 gn_30 gu_30 gb_30 ga_30 lc_30 lk_30 ln_30 lt_30 ll_30 lr_30 tw_30 tn_30 tt_30)) (fun u => (W_X4 cI q0 n1_0 n1_1 n1_2 n1_3 n1_4 n1_5 n1_6 n1_7 n1_8 n1_9 n1_10 n1_11 n1_12 n1_13 xr_30 xt_30 gn_30 gu_30 gb_30 ga_30 lc_30 lk_30 ln_30 lt_30 ll_30 lr_30 tw_30 tn_30 tt_30)) hP (hK.sub [0] rfl) hD hN hS hA [0, 1, 2, 3, 4, 5, 6, 7, 8, 9, 10, 11, 12, 13, 14] [] rfl rfl (by decide) (by decide) (by decide) [0, 1, 2, 3, 4, 5, 6, 7, 8, 9, 10, 11, 12, 13, 14] (by decide) (fun _ => rfl) (fun hg => va_runV (As := []) (rest := []) ⟨hx, hb, hml, hown, hts⟩ (c_X4_events l D cI q0 n1_0 n1_1 n1_2 n1_3 n1_4 n1_5 n1_6 n1_7 n1_8 n1_9 n1_10 n1_11 n1_12 n1_13 xr_30 xt_30 gn_30 gu_30 gb_30 ga_30 lc_30 lk_30 ln_30 lt_30 ll_30 lr_30 tw_30 tn_30 tt_30 _ ) (cwV 0 hts gL_law_X4_events rfl rfl rfl (by decide +kernel) ⟨Nat.le_of_ble_eq_true rfl, Nat.le_of_ble_eq_true rfl⟩) ⟨PW.blind, va_recv hK hP (ci := 4) (q0 := 0) rfl rfl, fun U hU hW => ⟨rfl, hg U hU hW⟩⟩ rfl rfl hl.1 rfl (lv_room ((by exact Nat.le_of_ble_eq_true rfl))) dL_law_275 ⟨(by show (kc30 + 1) + 0 ≤ 918419; omega), (by show (ks30 + 6) + 0 ≤ 6345925; omega)⟩) (fun r42 u H locs hw hP hD hS => ?_)
                      subst hw
                      refine lv_istore (lv' := [(9, .int (f_X4_events lc_30)), (8, .int j40), (6, .int (((f_L_cell L xs v30_3) / 8) - ((f_L_cell L xs v30_3) / 8) / 14 * 14)), (3, .int v30_3), (1, .ref q0), (0, .ref b0)]) hx hb dL_law_278 hl (by decide) rfl (fun ls hl => ?_)
                      refine lv_iload hx hb dL_law_280 (lv_at hl 1 rfl) ?_
                      refine lv_if_eq (tgt := 330) hx hb dL_law_282 (by decide) (fun c43 => ?_) (fun c43 => ?_)
                      · replace hp := hp.1 c43
                        replace he := he.trans (if_pos c43)
                        refine lv_aload_n hx hb dL_law_330 rfl (lv_at hl 4 rfl) ?_
                        refine lv_iload hx hb dL_law_331 (lv_at hl 2 rfl) ?_
                        have hq44 := hp.1
                        replace hp := hp.2
                        refine k_ycalli (S := Int32 × Int32 × AA × AA × AA × AA × AA × Int32 × AA × AA) (wc := (W_X4 cI q0 n1_0 n1_1 n1_2 n1_3 n1_4 n1_5 n1_6 n1_7 n1_8 n1_9 n1_10 n1_11 n1_12 n1_13 xr_30 xt_30 gn_30 gu_30 gb_30 ga_30 lc_30 lk_30 ln_30 lt_30 ll_30 lr_30 tw_30 tn_30 tt_30)) (wr := ([] : va_W)) (w1 := fun u => (W_X4 cI q0 n1_0 n1_1 n1_2 n1_3 n1_4 n1_5 n1_6 n1_7 n1_8 n1_9 n1_10 n1_11 n1_12 n1_13 u.1 xt_30 gn_30 gu_30 gb_30 ga_30 u.2.1 u.2.2.1 u.2.2.2.1 u.2.2.2.2.1 u.2.2.2.2.2.1 u.2.2.2.2.2.2.1 u.2.2.2.2.2.2.2.1 u.2.2.2.2.2.2.2.2.1 u.2.2.2.2.2.2.2.2.2)) (fun u => (W_X4 cI q0 n1_0 n1_1 n1_2 n1_3 n1_4 n1_5 n1_6 n1_7 n1_8 n1_9 n1_10 n1_11 n1_12 n1_13 u.1 xt_30 gn_30 gu_30 gb_30 ga_30 u.2.1 u.2.2.1 u.2.2.2.1 u.2.2.2.2.1 u.2.2.2.2.2.1 u.2.2.2.2.2.2.1 u.2.2.2.2.2.2.2.1 u.2.2.2.2.2.2.2.2.1 u.2.2.2.2.2.2.2.2.2)) hP (hK.sub [0] rfl) hD hN hXB hS hA [0, 1, 2, 3, 4, 5, 6, 7, 8, 9, 10, 11, 12, 13, 14] [] rfl rfl (by decide) (by decide) (by decide) [0, 1, 2, 3, 4, 5, 6, 7, 8, 9, 10, 11, 12, 13, 14] (by decide) (fun _ => rfl) (fun hg => vx_runSW (As := [.ref q0, .int (((f_L_cell L xs v30_3) / 8) - ((f_L_cell L xs v30_3) / 8) / 14 * 14)]) (rest := []) ⟨hx, hb, hml, hown, hts⟩ (c_L_raise l D cI q0 n1_0 n1_1 n1_2 n1_3 n1_4 n1_5 n1_6 n1_7 n1_8 n1_9 n1_10 n1_11 n1_12 n1_13 xr_30 xt_30 gn_30 gu_30 gb_30 ga_30 lc_30 lk_30 ln_30 lt_30 ll_30 lr_30 tw_30 tn_30 tt_30 _ (((f_L_cell L xs v30_3) / 8) - ((f_L_cell L xs v30_3) / 8) / 14 * 14) hq44 hst) (vx_cwSW 2 hts gL_law_L_raise rfl rfl rfl (by decide +kernel) ⟨Nat.le_of_ble_eq_true rfl, Nat.le_of_ble_eq_true rfl⟩) ⟨PX.blind, fun U hU hW => ⟨rfl, hg U hU hW⟩⟩ rfl rfl hl.1 rfl (lv_room ((by exact Nat.le_of_ble_eq_true rfl))) dL_law_333 ⟨(by show (kc30 + 1) + 2 ≤ 918419; omega), (by show (ks30 + 6) + 12 ≤ 6345925; omega)⟩) (fun r44 u H locs hw hP hD hS => ?_)
                        obtain ⟨u44_0, u44_1, u44_2, u44_3, u44_4, u44_5, u44_6, u44_7, u44_8, u44_9⟩ := u
                        rw [hw] at he
                        try dsimp only at he
                        replace hp := hp r44 u44_0 u44_1 u44_2 u44_3 u44_4 u44_5 u44_6 u44_7 u44_8 u44_9 hw
                        have hP : va_P D vwCl (W_X4 cI q0 n1_0 n1_1 n1_2 n1_3 n1_4 n1_5 n1_6 n1_7 n1_8 n1_9 n1_10 n1_11 n1_12 n1_13 u44_0 xt_30 gn_30 gu_30 gb_30 ga_30 u44_1 u44_2 u44_3 u44_4 u44_5 u44_6 u44_7 u44_8 u44_9) H := hP
                        have hD : va_D A (W_X4 cI q0 n1_0 n1_1 n1_2 n1_3 n1_4 n1_5 n1_6 n1_7 n1_8 n1_9 n1_10 n1_11 n1_12 n1_13 u44_0 xt_30 gn_30 gu_30 gb_30 ga_30 u44_1 u44_2 u44_3 u44_4 u44_5 u44_6 u44_7 u44_8 u44_9) := hD
                        refine lv_if_le (tgt := 363) hx hb dL_law_336 (by decide) (fun c45 => ?_) (fun c45 => ?_)
                        · replace hp := hp.1 c45
                          replace he := he.trans (if_pos c45)
                          refine lv_iconst (v := 0) hx hb dL_law_363 (by decide) ?_
                          refine lv_istore_n (lv' := [(2, .int 0), (9, .int (f_X4_events lc_30)), (8, .int j40), (6, .int (((f_L_cell L xs v30_3) / 8) - ((f_L_cell L xs v30_3) / 8) / 14 * 14)), (3, .int v30_3), (1, .ref q0), (0, .ref b0)]) hx hb dL_law_364 rfl hl (by decide) rfl (fun ls hl => ?_)
                          refine lv_iload_n hx hb dL_law_365 rfl (lv_at hl 0 rfl) ?_
                          refine lv_if_eq (tgt := 393) hx hb dL_law_366 (by decide) (fun _ => ?_) (fun c47 => absurd c47 (by decide))
                          refine lv_iconst (v := 0) hx hb dL_law_393 (by decide) ?_
                          refine lv_istore_n (lv' := [(2, .int 0), (9, .int (f_X4_events lc_30)), (8, .int j40), (6, .int (((f_L_cell L xs v30_3) / 8) - ((f_L_cell L xs v30_3) / 8) / 14 * 14)), (3, .int v30_3), (1, .ref q0), (0, .ref b0)]) hx hb dL_law_394 rfl hl (by decide) rfl (fun ls hl => ?_)
                          refine lv_iload_n hx hb dL_law_395 rfl (lv_at hl 0 rfl) ?_
                          refine lv_if_eq (tgt := 429) hx hb dL_law_396 (by decide) (fun _ => ?_) (fun c46 => absurd c46 (by decide))
                          refine lv_iconst (v := 0) hx hb dL_law_429 (by decide) ?_
                          refine lv_istore_n (lv' := [(2, .int 0), (9, .int (f_X4_events lc_30)), (8, .int j40), (6, .int (((f_L_cell L xs v30_3) / 8) - ((f_L_cell L xs v30_3) / 8) / 14 * 14)), (3, .int v30_3), (1, .ref q0), (0, .ref b0)]) hx hb dL_law_430 rfl hl (by decide) rfl (fun ls hl => ?_)
                          refine lv_iinc (v := (v30_3 + 1)) (lv' := [(3, .int (v30_3 + 1)), (2, .int 0), (9, .int (f_X4_events lc_30)), (8, .int j40), (6, .int (((f_L_cell L xs v30_3) / 8) - ((f_L_cell L xs v30_3) / 8) / 14 * 14)), (1, .ref q0), (0, .ref b0)]) hx hb dL_law_431 hl (k := 4) rfl rfl (by decide) rfl (fun ls hl => ?_)
                          refine lv_goto (tgt := 30) hx hb dL_law_434 (by decide) ?_
                          refine W.widen (k := kc30 + 15968) (n := ks30 + 95519) (by omega) (by omega) ?_
                          exact ih _ _ _ _ _ _ _ _ _ _ _ _ _ _ _ _ _ (kc30 + 15968) (ks30 + 95519) (by omega) (by omega) hp he _ _ hP hD hS _ (lv_sub hl [0, 1, 5, 6] rfl)
                        · replace hp := hp.2 c45
                          replace he := he.trans (if_neg c45)
                          refine lv_aload_n hx hb dL_law_339 rfl (lv_at hl 4 rfl) ?_
                          refine lv_iload hx hb dL_law_340 (lv_at hl 2 rfl) ?_
                          have hq48 := hp.1
                          replace hp := hp.2
                          refine k_ycalli (S := Unit) (wc := (W_X4 cI q0 n1_0 n1_1 n1_2 n1_3 n1_4 n1_5 n1_6 n1_7 n1_8 n1_9 n1_10 n1_11 n1_12 n1_13 u44_0 xt_30 gn_30 gu_30 gb_30 ga_30 u44_1 u44_2 u44_3 u44_4 u44_5 u44_6 u44_7 u44_8 u44_9)) (wr := ([] : va_W)) (w1 := fun u => (W_X4 cI q0 n1_0 n1_1 n1_2 n1_3 n1_4 n1_5 n1_6 n1_7 n1_8 n1_9 n1_10 n1_11 n1_12 n1_13 u44_0 xt_30 gn_30 gu_30 gb_30 ga_30 u44_1 u44_2 u44_3 u44_4 u44_5 u44_6 u44_7 u44_8 u44_9)) (fun u => (W_X4 cI q0 n1_0 n1_1 n1_2 n1_3 n1_4 n1_5 n1_6 n1_7 n1_8 n1_9 n1_10 n1_11 n1_12 n1_13 u44_0 xt_30 gn_30 gu_30 gb_30 ga_30 u44_1 u44_2 u44_3 u44_4 u44_5 u44_6 u44_7 u44_8 u44_9)) hP (hK.sub [0] rfl) hD hN hXB hS hA [0, 1, 2, 3, 4, 5, 6, 7, 8, 9, 10, 11, 12, 13, 14] [] rfl rfl (by decide) (by decide) (by decide) [0, 1, 2, 3, 4, 5, 6, 7, 8, 9, 10, 11, 12, 13, 14] (by decide) (fun _ => rfl) (fun hg => vx_runSW (As := [.ref q0, .int (((f_L_cell L xs v30_3) / 8) - ((f_L_cell L xs v30_3) / 8) / 14 * 14)]) (rest := []) ⟨hx, hb, hml, hown, hts⟩ (c_L_ticket l D cI q0 n1_0 n1_1 n1_2 n1_3 n1_4 n1_5 n1_6 n1_7 n1_8 n1_9 n1_10 n1_11 n1_12 n1_13 u44_0 xt_30 gn_30 gu_30 gb_30 ga_30 u44_1 u44_2 u44_3 u44_4 u44_5 u44_6 u44_7 u44_8 u44_9 _ (((f_L_cell L xs v30_3) / 8) - ((f_L_cell L xs v30_3) / 8) / 14 * 14) hq48 hst) (vx_cwSW 2 hts gL_law_L_ticket rfl rfl rfl (by decide +kernel) ⟨Nat.le_of_ble_eq_true rfl, Nat.le_of_ble_eq_true rfl⟩) ⟨PX.blind, fun U hU hW => ⟨rfl, hg U hU hW⟩⟩ rfl rfl hl.1 rfl (lv_room ((by exact Nat.le_of_ble_eq_true rfl))) dL_law_342 ⟨(by show (kc30 + 3) + 1 ≤ 918419; omega), (by show (ks30 + 18) + 6 ≤ 6345925; omega)⟩) (fun r48 u H locs hw hP hD hS => ?_)
                          subst hw
                          refine lv_if_le (tgt := 363) hx hb dL_law_345 (by decide) (fun c49 => ?_) (fun c49 => ?_)
                          · replace hp := hp.1 c49
                            replace he := he.trans (if_pos c49)
                            refine lv_iconst (v := 0) hx hb dL_law_363 (by decide) ?_
                            refine lv_istore_n (lv' := [(2, .int 0), (9, .int (f_X4_events lc_30)), (8, .int j40), (6, .int (((f_L_cell L xs v30_3) / 8) - ((f_L_cell L xs v30_3) / 8) / 14 * 14)), (3, .int v30_3), (1, .ref q0), (0, .ref b0)]) hx hb dL_law_364 rfl hl (by decide) rfl (fun ls hl => ?_)
                            refine lv_iload_n hx hb dL_law_365 rfl (lv_at hl 0 rfl) ?_
                            refine lv_if_eq (tgt := 393) hx hb dL_law_366 (by decide) (fun _ => ?_) (fun c51 => absurd c51 (by decide))
                            refine lv_iconst (v := 0) hx hb dL_law_393 (by decide) ?_
                            refine lv_istore_n (lv' := [(2, .int 0), (9, .int (f_X4_events lc_30)), (8, .int j40), (6, .int (((f_L_cell L xs v30_3) / 8) - ((f_L_cell L xs v30_3) / 8) / 14 * 14)), (3, .int v30_3), (1, .ref q0), (0, .ref b0)]) hx hb dL_law_394 rfl hl (by decide) rfl (fun ls hl => ?_)
                            refine lv_iload_n hx hb dL_law_395 rfl (lv_at hl 0 rfl) ?_
                            refine lv_if_eq (tgt := 429) hx hb dL_law_396 (by decide) (fun _ => ?_) (fun c50 => absurd c50 (by decide))
                            refine lv_iconst (v := 0) hx hb dL_law_429 (by decide) ?_
                            refine lv_istore_n (lv' := [(2, .int 0), (9, .int (f_X4_events lc_30)), (8, .int j40), (6, .int (((f_L_cell L xs v30_3) / 8) - ((f_L_cell L xs v30_3) / 8) / 14 * 14)), (3, .int v30_3), (1, .ref q0), (0, .ref b0)]) hx hb dL_law_430 rfl hl (by decide) rfl (fun ls hl => ?_)
                            refine lv_iinc (v := (v30_3 + 1)) (lv' := [(3, .int (v30_3 + 1)), (2, .int 0), (9, .int (f_X4_events lc_30)), (8, .int j40), (6, .int (((f_L_cell L xs v30_3) / 8) - ((f_L_cell L xs v30_3) / 8) / 14 * 14)), (1, .ref q0), (0, .ref b0)]) hx hb dL_law_431 hl (k := 4) rfl rfl (by decide) rfl (fun ls hl => ?_)
                            refine lv_goto (tgt := 30) hx hb dL_law_434 (by decide) ?_
                            refine W.widen (k := kc30 + 15968) (n := ks30 + 95519) (by omega) (by omega) ?_
                            exact ih _ _ _ _ _ _ _ _ _ _ _ _ _ _ _ _ _ (kc30 + 15968) (ks30 + 95519) (by omega) (by omega) hp he _ _ hP hD hS _ (lv_sub hl [0, 1, 5, 6] rfl)
                          · replace hp := hp.2 c49
                            replace he := he.trans (if_neg c49)
                            refine lv_aload_n hx hb dL_law_348 rfl (lv_at hl 4 rfl) ?_
                            refine lv_iload hx hb dL_law_349 (lv_at hl 2 rfl) ?_
                            have hq52 := hp.1
                            replace hp := hp.2
                            refine k_ycalli (S := Int32 × Int32 × AA × AA × AA × AA × AA × Int32 × AA × AA) (wc := (W_X4 cI q0 n1_0 n1_1 n1_2 n1_3 n1_4 n1_5 n1_6 n1_7 n1_8 n1_9 n1_10 n1_11 n1_12 n1_13 u44_0 xt_30 gn_30 gu_30 gb_30 ga_30 u44_1 u44_2 u44_3 u44_4 u44_5 u44_6 u44_7 u44_8 u44_9)) (wr := ([] : va_W)) (w1 := fun u => (W_X4 cI q0 n1_0 n1_1 n1_2 n1_3 n1_4 n1_5 n1_6 n1_7 n1_8 n1_9 n1_10 n1_11 n1_12 n1_13 u.1 xt_30 gn_30 gu_30 gb_30 ga_30 u.2.1 u.2.2.1 u.2.2.2.1 u.2.2.2.2.1 u.2.2.2.2.2.1 u.2.2.2.2.2.2.1 u.2.2.2.2.2.2.2.1 u.2.2.2.2.2.2.2.2.1 u.2.2.2.2.2.2.2.2.2)) (fun u => (W_X4 cI q0 n1_0 n1_1 n1_2 n1_3 n1_4 n1_5 n1_6 n1_7 n1_8 n1_9 n1_10 n1_11 n1_12 n1_13 u.1 xt_30 gn_30 gu_30 gb_30 ga_30 u.2.1 u.2.2.1 u.2.2.2.1 u.2.2.2.2.1 u.2.2.2.2.2.1 u.2.2.2.2.2.2.1 u.2.2.2.2.2.2.2.1 u.2.2.2.2.2.2.2.2.1 u.2.2.2.2.2.2.2.2.2)) hP (hK.sub [0] rfl) hD hN hXB hS hA [0, 1, 2, 3, 4, 5, 6, 7, 8, 9, 10, 11, 12, 13, 14] [] rfl rfl (by decide) (by decide) (by decide) [0, 1, 2, 3, 4, 5, 6, 7, 8, 9, 10, 11, 12, 13, 14] (by decide) (fun _ => rfl) (fun hg => vx_runSW (As := [.ref q0, .int (((f_L_cell L xs v30_3) / 8) - ((f_L_cell L xs v30_3) / 8) / 14 * 14)]) (rest := []) ⟨hx, hb, hml, hown, hts⟩ (c_L_raise l D cI q0 n1_0 n1_1 n1_2 n1_3 n1_4 n1_5 n1_6 n1_7 n1_8 n1_9 n1_10 n1_11 n1_12 n1_13 u44_0 xt_30 gn_30 gu_30 gb_30 ga_30 u44_1 u44_2 u44_3 u44_4 u44_5 u44_6 u44_7 u44_8 u44_9 _ (((f_L_cell L xs v30_3) / 8) - ((f_L_cell L xs v30_3) / 8) / 14 * 14) hq52 hst) (vx_cwSW 2 hts gL_law_L_raise rfl rfl rfl (by decide +kernel) ⟨Nat.le_of_ble_eq_true rfl, Nat.le_of_ble_eq_true rfl⟩) ⟨PX.blind, fun U hU hW => ⟨rfl, hg U hU hW⟩⟩ rfl rfl hl.1 rfl (lv_room ((by exact Nat.le_of_ble_eq_true rfl))) dL_law_351 ⟨(by show (kc30 + 4) + 2 ≤ 918419; omega), (by show (ks30 + 24) + 12 ≤ 6345925; omega)⟩) (fun r52 u H locs hw hP hD hS => ?_)
                            obtain ⟨u52_0, u52_1, u52_2, u52_3, u52_4, u52_5, u52_6, u52_7, u52_8, u52_9⟩ := u
                            rw [hw] at he
                            try dsimp only at he
                            replace hp := hp r52 u52_0 u52_1 u52_2 u52_3 u52_4 u52_5 u52_6 u52_7 u52_8 u52_9 hw
                            have hP : va_P D vwCl (W_X4 cI q0 n1_0 n1_1 n1_2 n1_3 n1_4 n1_5 n1_6 n1_7 n1_8 n1_9 n1_10 n1_11 n1_12 n1_13 u52_0 xt_30 gn_30 gu_30 gb_30 ga_30 u52_1 u52_2 u52_3 u52_4 u52_5 u52_6 u52_7 u52_8 u52_9) H := hP
                            have hD : va_D A (W_X4 cI q0 n1_0 n1_1 n1_2 n1_3 n1_4 n1_5 n1_6 n1_7 n1_8 n1_9 n1_10 n1_11 n1_12 n1_13 u52_0 xt_30 gn_30 gu_30 gb_30 ga_30 u52_1 u52_2 u52_3 u52_4 u52_5 u52_6 u52_7 u52_8 u52_9) := hD
                            refine lv_bipush (v := (-103)) hx hb dL_law_354 (by decide) ?_
                            obtain ⟨j53, hJ53⟩ : ∃ z : Int32, z = (if r52 = (-103) then (1 : Int32) else (0 : Int32)) := ⟨_, rfl⟩
                            rw [← hJ53] at he
                            try dsimp only at he
                            have hpJ53 := hp.1
                            replace hp := hp.2 _  hJ53.symm
                            have kont53 : (j53 = 0 ∨ j53 = 1) → ∀ (H : Heap) (locs : List Loc), va_P D vwCl (W_X4 cI q0 n1_0 n1_1 n1_2 n1_3 n1_4 n1_5 n1_6 n1_7 n1_8 n1_9 n1_10 n1_11 n1_12 n1_13 u52_0 xt_30 gn_30 gu_30 gb_30 ga_30 u52_1 u52_2 u52_3 u52_4 u52_5 u52_6 u52_7 u52_8 u52_9) H → va_D A (W_X4 cI q0 n1_0 n1_1 n1_2 n1_3 n1_4 n1_5 n1_6 n1_7 n1_8 n1_9 n1_10 n1_11 n1_12 n1_13 u52_0 xt_30 gn_30 gu_30 gb_30 ga_30 u52_1 u52_2 u52_3 u52_4 u52_5 u52_6 u52_7 u52_8 u52_9) → va_S A s.heap H locs → ∀ ls : Array Slot, lv_has ls 10 [(9, .int (f_X4_events lc_30)), (8, .int j40), (3, .int v30_3), (1, .ref q0), (0, .ref b0)] → W p l e room_1 s m #[Value.ref b0] below meth c H locs (kc30 + 6) (ks30 + 36) (lw_Z below #[Value.ref b0] s) (F0 m 364 ls [.int j53]) := by
                              intro hb53 H locs hP hD hS ls hl
                              refine lv_istore_n (lv' := [(2, .int j53), (9, .int (f_X4_events lc_30)), (8, .int j40), (3, .int v30_3), (1, .ref q0), (0, .ref b0)]) hx hb dL_law_364 rfl hl (by decide) rfl (fun ls hl => ?_)
                              refine lv_iload_n hx hb dL_law_365 rfl (lv_at hl 0 rfl) ?_
                              obtain ⟨j55, hJ55⟩ : ∃ z : Int32, z = (if j53 = 0 then (0 : Int32) else (if j40 = 0 then (if (f_X4_events u52_1) = ((f_X4_events lc_30) + 1) then (1 : Int32) else (0 : Int32)) else (if (f_X4_events u52_1) = ((f_X4_events lc_30) + 3) then (1 : Int32) else (0 : Int32)))) := ⟨_, rfl⟩
                              rw [← hJ55] at he
                              try dsimp only at he
                              have hpJ55 := hp.1
                              replace hp := hp.2 _  hJ55.symm
                              have kont55 : (j55 = 0 ∨ j55 = 1) → ∀ (H : Heap) (locs : List Loc), va_P D vwCl (W_X4 cI q0 n1_0 n1_1 n1_2 n1_3 n1_4 n1_5 n1_6 n1_7 n1_8 n1_9 n1_10 n1_11 n1_12 n1_13 u52_0 xt_30 gn_30 gu_30 gb_30 ga_30 u52_1 u52_2 u52_3 u52_4 u52_5 u52_6 u52_7 u52_8 u52_9) H → va_D A (W_X4 cI q0 n1_0 n1_1 n1_2 n1_3 n1_4 n1_5 n1_6 n1_7 n1_8 n1_9 n1_10 n1_11 n1_12 n1_13 u52_0 xt_30 gn_30 gu_30 gb_30 ga_30 u52_1 u52_2 u52_3 u52_4 u52_5 u52_6 u52_7 u52_8 u52_9) → va_S A s.heap H locs → ∀ ls : Array Slot, lv_has ls 10 [(3, .int v30_3), (1, .ref q0), (0, .ref b0)] → W p l e room_1 s m #[Value.ref b0] below meth c H locs (kc30 + 6) (ks30 + 36) (lw_Z below #[Value.ref b0] s) (F0 m 394 ls [.int j55]) := by
                                intro hb55 H locs hP hD hS ls hl
                                refine lv_istore_n (lv' := [(2, .int j55), (3, .int v30_3), (1, .ref q0), (0, .ref b0)]) hx hb dL_law_394 rfl hl (by decide) rfl (fun ls hl => ?_)
                                refine lv_iload_n hx hb dL_law_395 rfl (lv_at hl 0 rfl) ?_
                                obtain ⟨j61, hJ61⟩ : ∃ z : Int32, z = (if j55 = 0 then (0 : Int32) else (if 0 < (v30_3 - v30_3 / 5 * 5) then (if 0 < (v30_3 - v30_3 / 3 * 3) then (1 : Int32) else (if (f_L_causes u52_0 gn_30 gu_30 gb_30 ga_30 u52_8) = 0 then (0 : Int32) else (1 : Int32))) else (if (f_L_hangs gn_30 gb_30) = 0 then (0 : Int32) else (if 0 < (v30_3 - v30_3 / 3 * 3) then (1 : Int32) else (if (f_L_causes u52_0 gn_30 gu_30 gb_30 ga_30 u52_8) = 0 then (0 : Int32) else (1 : Int32)))))) := ⟨_, rfl⟩
                                rw [← hJ61] at he
                                try dsimp only at he
                                have hpJ61 := hp.1
                                replace hp := hp.2 _  hJ61.symm
                                have kont61 : (j61 = 0 ∨ j61 = 1) → ∀ (H : Heap) (locs : List Loc), va_P D vwCl (W_X4 cI q0 n1_0 n1_1 n1_2 n1_3 n1_4 n1_5 n1_6 n1_7 n1_8 n1_9 n1_10 n1_11 n1_12 n1_13 u52_0 xt_30 gn_30 gu_30 gb_30 ga_30 u52_1 u52_2 u52_3 u52_4 u52_5 u52_6 u52_7 u52_8 u52_9) H → va_D A (W_X4 cI q0 n1_0 n1_1 n1_2 n1_3 n1_4 n1_5 n1_6 n1_7 n1_8 n1_9 n1_10 n1_11 n1_12 n1_13 u52_0 xt_30 gn_30 gu_30 gb_30 ga_30 u52_1 u52_2 u52_3 u52_4 u52_5 u52_6 u52_7 u52_8 u52_9) → va_S A s.heap H locs → ∀ ls : Array Slot, lv_has ls 10 [(3, .int v30_3), (1, .ref q0), (0, .ref b0)] → W p l e room_1 s m #[Value.ref b0] below meth c H locs (kc30 + 15966) (ks30 + 95507) (lw_Z below #[Value.ref b0] s) (F0 m 430 ls [.int j61]) := by
                                  intro hb61 H locs hP hD hS ls hl
                                  refine lv_istore_n (lv' := [(2, .int j61), (3, .int v30_3), (1, .ref q0), (0, .ref b0)]) hx hb dL_law_430 rfl hl (by decide) rfl (fun ls hl => ?_)
                                  refine lv_iinc (v := (v30_3 + 1)) (lv' := [(3, .int (v30_3 + 1)), (2, .int j61), (1, .ref q0), (0, .ref b0)]) hx hb dL_law_431 hl (k := 1) rfl rfl (by decide) rfl (fun ls hl => ?_)
                                  refine lv_goto (tgt := 30) hx hb dL_law_434 (by decide) ?_
                                  refine W.widen (k := kc30 + 15968) (n := ks30 + 95519) (by omega) (by omega) ?_
                                  exact ih _ _ _ _ _ _ _ _ _ _ _ _ _ _ _ _ _ (kc30 + 15968) (ks30 + 95519) (by omega) (by omega) hp he _ _ hP hD hS _ (lv_sub hl [0, 1, 2, 3] rfl)
                                replace he := hJ61
                                replace hp := hpJ61
                                refine lv_if_eq (tgt := 429) hx hb dL_law_396 (by decide) (fun c62 => ?_) (fun c62 => ?_)
                                · replace hp := hp.1 c62
                                  replace he := he.trans (if_pos c62)
                                  refine lv_iconst (v := 0) hx hb dL_law_429 (by decide) ?_
                                  subst he
                                  refine W.widen (k := (kc30 + 15966)) (n := (ks30 + 95507)) (by omega) (by omega) ?_
                                  exact kont61 (Or.inl rfl) _ _ hP hD hS _ (lv_sub hl [1, 2, 3] rfl)
                                · replace hp := hp.2 c62
                                  replace he := he.trans (if_neg c62)
                                  refine lv_iload_n hx hb dL_law_399 rfl (lv_at hl 1 rfl) ?_
                                  refine lv_iconst (v := 5) hx hb dL_law_400 (by decide) ?_
                                  refine lv_irem hx hb dL_law_401 (by decide) ?_
                                  refine lv_if_gt (tgt := 412) hx hb dL_law_402 (by decide) (fun c63 => ?_) (fun c63 => ?_)
                                  · replace hp := hp.1 c63
                                    replace he := he.trans (if_pos c63)
                                    refine lv_iload_n hx hb dL_law_412 rfl (lv_at hl 1 rfl) ?_
                                    refine lv_iconst (v := 3) hx hb dL_law_413 (by decide) ?_
                                    refine lv_irem hx hb dL_law_414 (by decide) ?_
                                    refine lv_if_gt (tgt := 425) hx hb dL_law_415 (by decide) (fun c64 => ?_) (fun c64 => ?_)
                                    · replace hp := hp.1 c64
                                      replace he := he.trans (if_pos c64)
                                      refine lv_iconst (v := 1) hx hb dL_law_425 (by decide) ?_
                                      refine lv_goto (tgt := 430) hx hb dL_law_426 (by decide) ?_
                                      subst he
                                      refine W.widen (k := (kc30 + 15966)) (n := (ks30 + 95507)) (by omega) (by omega) ?_
                                      exact kont61 (Or.inr rfl) _ _ hP hD hS _ (lv_sub hl [1, 2, 3] rfl)
                                    · replace hp := hp.2 c64
                                      replace he := he.trans (if_neg c64)
                                      refine lv_aload_n hx hb dL_law_418 rfl (lv_at hl 2 rfl) ?_
                                      have hq65 := hp.1
                                      replace hp := hp.2
                                      refine k_ycalli (S := Unit) (wc := (W_X4 cI q0 n1_0 n1_1 n1_2 n1_3 n1_4 n1_5 n1_6 n1_7 n1_8 n1_9 n1_10 n1_11 n1_12 n1_13 u52_0 xt_30 gn_30 gu_30 gb_30 ga_30 u52_1 u52_2 u52_3 u52_4 u52_5 u52_6 u52_7 u52_8 u52_9)) (wr := ([] : va_W)) (w1 := fun u => (W_X4 cI q0 n1_0 n1_1 n1_2 n1_3 n1_4 n1_5 n1_6 n1_7 n1_8 n1_9 n1_10 n1_11 n1_12 n1_13 u52_0 xt_30 gn_30 gu_30 gb_30 ga_30 u52_1 u52_2 u52_3 u52_4 u52_5 u52_6 u52_7 u52_8 u52_9)) (fun u => (W_X4 cI q0 n1_0 n1_1 n1_2 n1_3 n1_4 n1_5 n1_6 n1_7 n1_8 n1_9 n1_10 n1_11 n1_12 n1_13 u52_0 xt_30 gn_30 gu_30 gb_30 ga_30 u52_1 u52_2 u52_3 u52_4 u52_5 u52_6 u52_7 u52_8 u52_9)) hP (hK.sub [0] rfl) hD hN hXB hS hA [0, 1, 2, 3, 4, 5, 6, 7, 8, 9, 10, 11, 12, 13, 14] [] rfl rfl (by decide) (by decide) (by decide) [0, 1, 2, 3, 4, 5, 6, 7, 8, 9, 10, 11, 12, 13, 14] (by decide) (fun _ => rfl) (fun hg => va_runS (As := [.ref q0]) (rest := []) ⟨hx, hb, hml, hown, hts⟩ (c_L_causes l D cI q0 n1_0 n1_1 n1_2 n1_3 n1_4 n1_5 n1_6 n1_7 n1_8 n1_9 n1_10 n1_11 n1_12 n1_13 u52_0 xt_30 gn_30 gu_30 gb_30 ga_30 u52_1 u52_2 u52_3 u52_4 u52_5 u52_6 u52_7 u52_8 u52_9 _ hq65 hst) (va_cwS 1 hts gL_law_L_causes rfl rfl rfl (by decide +kernel) ⟨Nat.le_of_ble_eq_true rfl, Nat.le_of_ble_eq_true rfl⟩) ⟨PX.blind, fun U hU hW => ⟨rfl, hg U hU hW⟩⟩ rfl rfl hl.1 rfl (lv_room ((by exact Nat.le_of_ble_eq_true rfl))) dL_law_419 ⟨(by show (kc30 + 6) + 1095 ≤ 918419; omega), (by show (ks30 + 36) + 6281 ≤ 6345925; omega)⟩) (fun r65 u H locs hw hP hD hS => ?_)
                                      obtain ⟨hw, hb65⟩ := hw
                                      subst hw
                                      refine lv_if_eq (tgt := 429) hx hb dL_law_422 (by decide) (fun c66 => ?_) (fun c66 => ?_)
                                      · replace hp := hp.1 c66
                                        replace he := he.trans (if_pos c66)
                                        refine lv_iconst (v := 0) hx hb dL_law_429 (by decide) ?_
                                        subst he
                                        refine W.widen (k := (kc30 + 15966)) (n := (ks30 + 95507)) (by omega) (by omega) ?_
                                        exact kont61 (Or.inl rfl) _ _ hP hD hS _ (lv_sub hl [1, 2, 3] rfl)
                                      · replace hp := hp.2 c66
                                        replace he := he.trans (if_neg c66)
                                        refine lv_iconst (v := 1) hx hb dL_law_425 (by decide) ?_
                                        refine lv_goto (tgt := 430) hx hb dL_law_426 (by decide) ?_
                                        subst he
                                        refine W.widen (k := (kc30 + 15966)) (n := (ks30 + 95507)) (by omega) (by omega) ?_
                                        exact kont61 (Or.inr rfl) _ _ hP hD hS _ (lv_sub hl [1, 2, 3] rfl)
                                  · replace hp := hp.2 c63
                                    replace he := he.trans (if_neg c63)
                                    refine lv_aload_n hx hb dL_law_405 rfl (lv_at hl 2 rfl) ?_
                                    have hq67 := hp.1
                                    replace hp := hp.2
                                    refine k_ycalli (S := Unit) (wc := (W_X4 cI q0 n1_0 n1_1 n1_2 n1_3 n1_4 n1_5 n1_6 n1_7 n1_8 n1_9 n1_10 n1_11 n1_12 n1_13 u52_0 xt_30 gn_30 gu_30 gb_30 ga_30 u52_1 u52_2 u52_3 u52_4 u52_5 u52_6 u52_7 u52_8 u52_9)) (wr := ([] : va_W)) (w1 := fun u => (W_X4 cI q0 n1_0 n1_1 n1_2 n1_3 n1_4 n1_5 n1_6 n1_7 n1_8 n1_9 n1_10 n1_11 n1_12 n1_13 u52_0 xt_30 gn_30 gu_30 gb_30 ga_30 u52_1 u52_2 u52_3 u52_4 u52_5 u52_6 u52_7 u52_8 u52_9)) (fun u => (W_X4 cI q0 n1_0 n1_1 n1_2 n1_3 n1_4 n1_5 n1_6 n1_7 n1_8 n1_9 n1_10 n1_11 n1_12 n1_13 u52_0 xt_30 gn_30 gu_30 gb_30 ga_30 u52_1 u52_2 u52_3 u52_4 u52_5 u52_6 u52_7 u52_8 u52_9)) hP (hK.sub [0] rfl) hD hN hXB hS hA [0, 1, 2, 3, 4, 5, 6, 7, 8, 9, 10, 11, 12, 13, 14] [] rfl rfl (by decide) (by decide) (by decide) [0, 1, 2, 3, 4, 5, 6, 7, 8, 9, 10, 11, 12, 13, 14] (by decide) (fun _ => rfl) (fun hg => va_runS (As := [.ref q0]) (rest := []) ⟨hx, hb, hml, hown, hts⟩ (c_L_hangs l D cI q0 n1_0 n1_1 n1_2 n1_3 n1_4 n1_5 n1_6 n1_7 n1_8 n1_9 n1_10 n1_11 n1_12 n1_13 u52_0 xt_30 gn_30 gu_30 gb_30 ga_30 u52_1 u52_2 u52_3 u52_4 u52_5 u52_6 u52_7 u52_8 u52_9 _ hq67 hst) (va_cwS 1 hts gL_law_L_hangs rfl rfl rfl (by decide +kernel) ⟨Nat.le_of_ble_eq_true rfl, Nat.le_of_ble_eq_true rfl⟩) ⟨PX.blind, fun U hU hW => ⟨rfl, hg U hU hW⟩⟩ rfl rfl hl.1 rfl (lv_room ((by exact Nat.le_of_ble_eq_true rfl))) dL_law_406 ⟨(by show (kc30 + 6) + 14865 ≤ 918419; omega), (by show (ks30 + 36) + 89190 ≤ 6345925; omega)⟩) (fun r67 u H locs hw hP hD hS => ?_)
                                    obtain ⟨hw, hb67⟩ := hw
                                    subst hw
                                    refine lv_if_eq (tgt := 429) hx hb dL_law_409 (by decide) (fun c68 => ?_) (fun c68 => ?_)
                                    · replace hp := hp.1 c68
                                      replace he := he.trans (if_pos c68)
                                      refine lv_iconst (v := 0) hx hb dL_law_429 (by decide) ?_
                                      subst he
                                      refine W.widen (k := (kc30 + 15966)) (n := (ks30 + 95507)) (by omega) (by omega) ?_
                                      exact kont61 (Or.inl rfl) _ _ hP hD hS _ (lv_sub hl [1, 2, 3] rfl)
                                    · replace hp := hp.2 c68
                                      replace he := he.trans (if_neg c68)
                                      refine lv_iload_n hx hb dL_law_412 rfl (lv_at hl 1 rfl) ?_
                                      refine lv_iconst (v := 3) hx hb dL_law_413 (by decide) ?_
                                      refine lv_irem hx hb dL_law_414 (by decide) ?_
                                      refine lv_if_gt (tgt := 425) hx hb dL_law_415 (by decide) (fun c69 => ?_) (fun c69 => ?_)
                                      · replace hp := hp.1 c69
                                        replace he := he.trans (if_pos c69)
                                        refine lv_iconst (v := 1) hx hb dL_law_425 (by decide) ?_
                                        refine lv_goto (tgt := 430) hx hb dL_law_426 (by decide) ?_
                                        subst he
                                        refine W.widen (k := (kc30 + 15966)) (n := (ks30 + 95507)) (by omega) (by omega) ?_
                                        exact kont61 (Or.inr rfl) _ _ hP hD hS _ (lv_sub hl [1, 2, 3] rfl)
                                      · replace hp := hp.2 c69
                                        replace he := he.trans (if_neg c69)
                                        refine lv_aload_n hx hb dL_law_418 rfl (lv_at hl 2 rfl) ?_
                                        have hq70 := hp.1
                                        replace hp := hp.2
                                        refine k_ycalli (S := Unit) (wc := (W_X4 cI q0 n1_0 n1_1 n1_2 n1_3 n1_4 n1_5 n1_6 n1_7 n1_8 n1_9 n1_10 n1_11 n1_12 n1_13 u52_0 xt_30 gn_30 gu_30 gb_30 ga_30 u52_1 u52_2 u52_3 u52_4 u52_5 u52_6 u52_7 u52_8 u52_9)) (wr := ([] : va_W)) (w1 := fun u => (W_X4 cI q0 n1_0 n1_1 n1_2 n1_3 n1_4 n1_5 n1_6 n1_7 n1_8 n1_9 n1_10 n1_11 n1_12 n1_13 u52_0 xt_30 gn_30 gu_30 gb_30 ga_30 u52_1 u52_2 u52_3 u52_4 u52_5 u52_6 u52_7 u52_8 u52_9)) (fun u => (W_X4 cI q0 n1_0 n1_1 n1_2 n1_3 n1_4 n1_5 n1_6 n1_7 n1_8 n1_9 n1_10 n1_11 n1_12 n1_13 u52_0 xt_30 gn_30 gu_30 gb_30 ga_30 u52_1 u52_2 u52_3 u52_4 u52_5 u52_6 u52_7 u52_8 u52_9)) hP (hK.sub [0] rfl) hD hN hXB hS hA [0, 1, 2, 3, 4, 5, 6, 7, 8, 9, 10, 11, 12, 13, 14] [] rfl rfl (by decide) (by decide) (by decide) [0, 1, 2, 3, 4, 5, 6, 7, 8, 9, 10, 11, 12, 13, 14] (by decide) (fun _ => rfl) (fun hg => va_runS (As := [.ref q0]) (rest := []) ⟨hx, hb, hml, hown, hts⟩ (c_L_causes l D cI q0 n1_0 n1_1 n1_2 n1_3 n1_4 n1_5 n1_6 n1_7 n1_8 n1_9 n1_10 n1_11 n1_12 n1_13 u52_0 xt_30 gn_30 gu_30 gb_30 ga_30 u52_1 u52_2 u52_3 u52_4 u52_5 u52_6 u52_7 u52_8 u52_9 _ hq70 hst) (va_cwS 1 hts gL_law_L_causes rfl rfl rfl (by decide +kernel) ⟨Nat.le_of_ble_eq_true rfl, Nat.le_of_ble_eq_true rfl⟩) ⟨PX.blind, fun U hU hW => ⟨rfl, hg U hU hW⟩⟩ rfl rfl hl.1 rfl (lv_room ((by exact Nat.le_of_ble_eq_true rfl))) dL_law_419 ⟨(by show (kc30 + 14871) + 1095 ≤ 918419; omega), (by show (ks30 + 89226) + 6281 ≤ 6345925; omega)⟩) (fun r70 u H locs hw hP hD hS => ?_)
                                        obtain ⟨hw, hb70⟩ := hw
                                        subst hw
                                        refine lv_if_eq (tgt := 429) hx hb dL_law_422 (by decide) (fun c71 => ?_) (fun c71 => ?_)
                                        · replace hp := hp.1 c71
                                          replace he := he.trans (if_pos c71)
                                          refine lv_iconst (v := 0) hx hb dL_law_429 (by decide) ?_
                                          subst he
                                          exact kont61 (Or.inl rfl) _ _ hP hD hS _ (lv_sub hl [1, 2, 3] rfl)
                                        · replace hp := hp.2 c71
                                          replace he := he.trans (if_neg c71)
                                          refine lv_iconst (v := 1) hx hb dL_law_425 (by decide) ?_
                                          refine lv_goto (tgt := 430) hx hb dL_law_426 (by decide) ?_
                                          subst he
                                          exact kont61 (Or.inr rfl) _ _ hP hD hS _ (lv_sub hl [1, 2, 3] rfl)
                              replace he := hJ55
                              replace hp := hpJ55
                              refine lv_if_eq (tgt := 393) hx hb dL_law_366 (by decide) (fun c56 => ?_) (fun c56 => ?_)
                              · replace hp := hp.1 c56
                                replace he := he.trans (if_pos c56)
                                refine lv_iconst (v := 0) hx hb dL_law_393 (by decide) ?_
                                subst he
                                exact kont55 (Or.inl rfl) _ _ hP hD hS _ (lv_sub hl [3, 4, 5] rfl)
                              · replace hp := hp.2 c56
                                replace he := he.trans (if_neg c56)
                                refine lv_aload_n hx hb dL_law_369 rfl (lv_at hl 4 rfl) ?_
                                refine k_calli (S := Unit) (wc := (W_X4 cI q0 n1_0 n1_1 n1_2 n1_3 n1_4 n1_5 n1_6 n1_7 n1_8 n1_9 n1_10 n1_11 n1_12 n1_13 u52_0 xt_30 gn_30 gu_30 gb_30 ga_30 u52_1 u52_2 u52_3 u52_4 u52_5 u52_6 u52_7 u52_8 u52_9)) (wr := ([] : va_W)) (w1 := fun u => (W_X4 cI q0 n1_0 n1_1 n1_2 n1_3 n1_4 n1_5 n1_6 n1_7 n1_8 n1_9 n1_10 n1_11 n1_12 n1_13 u52_0 xt_30 gn_30 gu_30 gb_30 ga_30 u52_1 u52_2 u52_3 u52_4 u52_5 u52_6 u52_7 u52_8 u52_9)) (fun u => (W_X4 cI q0 n1_0 n1_1 n1_2 n1_3 n1_4 n1_5 n1_6 n1_7 n1_8 n1_9 n1_10 n1_11 n1_12 n1_13 u52_0 xt_30 gn_30 gu_30 gb_30 ga_30 u52_1 u52_2 u52_3 u52_4 u52_5 u52_6 u52_7 u52_8 u52_9)) hP (hK.sub [0] rfl) hD hN hS hA [0, 1, 2, 3, 4, 5, 6, 7, 8, 9, 10, 11, 12, 13, 14] [] rfl rfl (by decide) (by decide) (by decide) [0, 1, 2, 3, 4, 5, 6, 7, 8, 9, 10, 11, 12, 13, 14] (by decide) (fun _ => rfl) (fun hg => va_runV (As := []) (rest := []) ⟨hx, hb, hml, hown, hts⟩ (c_X4_events l D cI q0 n1_0 n1_1 n1_2 n1_3 n1_4 n1_5 n1_6 n1_7 n1_8 n1_9 n1_10 n1_11 n1_12 n1_13 u52_0 xt_30 gn_30 gu_30 gb_30 ga_30 u52_1 u52_2 u52_3 u52_4 u52_5 u52_6 u52_7 u52_8 u52_9 _ ) (cwV 0 hts gL_law_X4_events rfl rfl rfl (by decide +kernel) ⟨Nat.le_of_ble_eq_true rfl, Nat.le_of_ble_eq_true rfl⟩) ⟨PW.blind, va_recv hK hP (ci := 4) (q0 := 0) rfl rfl, fun U hU hW => ⟨rfl, hg U hU hW⟩⟩ rfl rfl hl.1 rfl (lv_room ((by exact Nat.le_of_ble_eq_true rfl))) dL_law_370 ⟨(by show (kc30 + 6) + 0 ≤ 918419; omega), (by show (ks30 + 36) + 0 ≤ 6345925; omega)⟩) (fun r57 u H locs hw hP hD hS => ?_)
                                subst hw
                                refine lv_iload hx hb dL_law_373 (lv_at hl 1 rfl) ?_
                                refine lv_iload hx hb dL_law_375 (lv_at hl 2 rfl) ?_
                                refine lv_if_eq (tgt := 384) hx hb dL_law_377 (by decide) (fun c58 => ?_) (fun c58 => ?_)
                                · replace hp := hp.1 c58
                                  replace he := he.trans (if_pos c58)
                                  refine lv_iconst (v := 1) hx hb dL_law_384 (by decide) ?_
                                  refine lv_iadd hx hb dL_law_385 ?_
                                  refine lv_icmp_ne (tgt := 393) hx hb dL_law_386 (by decide) (fun c59 => ?_) (fun c59 => ?_)
                                  · replace hp := hp.2 c59
                                    replace he := he.trans (if_neg c59)
                                    refine lv_iconst (v := 0) hx hb dL_law_393 (by decide) ?_
                                    subst he
                                    exact kont55 (Or.inl rfl) _ _ hP hD hS _ (lv_sub hl [3, 4, 5] rfl)
                                  · replace hp := hp.1 c59
                                    replace he := he.trans (if_pos c59)
                                    refine lv_iconst (v := 1) hx hb dL_law_389 (by decide) ?_
                                    refine lv_goto (tgt := 394) hx hb dL_law_390 (by decide) ?_
                                    subst he
                                    exact kont55 (Or.inr rfl) _ _ hP hD hS _ (lv_sub hl [3, 4, 5] rfl)
                                · replace hp := hp.2 c58
                                  replace he := he.trans (if_neg c58)
                                  refine lv_iconst (v := 3) hx hb dL_law_380 (by decide) ?_
                                  refine lv_goto (tgt := 385) hx hb dL_law_381 (by decide) ?_
                                  refine lv_iadd hx hb dL_law_385 ?_
                                  refine lv_icmp_ne (tgt := 393) hx hb dL_law_386 (by decide) (fun c60 => ?_) (fun c60 => ?_)
                                  · replace hp := hp.2 c60
                                    replace he := he.trans (if_neg c60)
                                    refine lv_iconst (v := 0) hx hb dL_law_393 (by decide) ?_
                                    subst he
                                    exact kont55 (Or.inl rfl) _ _ hP hD hS _ (lv_sub hl [3, 4, 5] rfl)
                                  · replace hp := hp.1 c60
                                    replace he := he.trans (if_pos c60)
                                    refine lv_iconst (v := 1) hx hb dL_law_389 (by decide) ?_
                                    refine lv_goto (tgt := 394) hx hb dL_law_390 (by decide) ?_
                                    subst he
                                    exact kont55 (Or.inr rfl) _ _ hP hD hS _ (lv_sub hl [3, 4, 5] rfl)
                            replace he := hJ53
                            replace hp := hpJ53
                            refine lv_icmp_ne (tgt := 363) hx hb dL_law_356 (by decide) (fun c54 => ?_) (fun c54 => ?_)
                            · replace hp := hp.2 c54
                              replace he := he.trans (if_neg c54)
                              refine lv_iconst (v := 0) hx hb dL_law_363 (by decide) ?_
                              subst he
                              exact kont53 (Or.inl rfl) _ _ hP hD hS _ (lv_sub hl [0, 1, 3, 4, 5] rfl)
                            · replace hp := hp.1 c54
                              replace he := he.trans (if_pos c54)
                              refine lv_iconst (v := 1) hx hb dL_law_359 (by decide) ?_
                              refine lv_goto (tgt := 364) hx hb dL_law_360 (by decide) ?_
                              subst he
                              exact kont53 (Or.inr rfl) _ _ hP hD hS _ (lv_sub hl [0, 1, 3, 4, 5] rfl)
                      · replace hp := hp.2 c43
                        replace he := he.trans (if_neg c43)
                        refine lv_aload_n hx hb dL_law_285 rfl (lv_at hl 4 rfl) ?_
                        refine lv_iload hx hb dL_law_286 (lv_at hl 2 rfl) ?_
                        have hq72 := hp.1
                        replace hp := hp.2
                        refine k_ycalli (S := Int32 × Int32 × AA × AA × AA × AA × AA) (wc := (W_X4 cI q0 n1_0 n1_1 n1_2 n1_3 n1_4 n1_5 n1_6 n1_7 n1_8 n1_9 n1_10 n1_11 n1_12 n1_13 xr_30 xt_30 gn_30 gu_30 gb_30 ga_30 lc_30 lk_30 ln_30 lt_30 ll_30 lr_30 tw_30 tn_30 tt_30)) (wr := ([] : va_W)) (w1 := fun u => (W_X4 cI q0 n1_0 n1_1 n1_2 n1_3 n1_4 n1_5 n1_6 n1_7 n1_8 n1_9 n1_10 n1_11 n1_12 n1_13 u.1 xt_30 gn_30 gu_30 gb_30 ga_30 u.2.1 u.2.2.1 u.2.2.2.1 u.2.2.2.2.1 u.2.2.2.2.2.1 lr_30 tw_30 u.2.2.2.2.2.2 tt_30)) (fun u => (W_X4 cI q0 n1_0 n1_1 n1_2 n1_3 n1_4 n1_5 n1_6 n1_7 n1_8 n1_9 n1_10 n1_11 n1_12 n1_13 u.1 xt_30 gn_30 gu_30 gb_30 ga_30 u.2.1 u.2.2.1 u.2.2.2.1 u.2.2.2.2.1 u.2.2.2.2.2.1 lr_30 tw_30 u.2.2.2.2.2.2 tt_30)) hP (hK.sub [0] rfl) hD hN hXB hS hA [0, 1, 2, 3, 4, 5, 6, 7, 8, 9, 10, 11, 12, 13, 14] [] rfl rfl (by decide) (by decide) (by decide) [0, 1, 2, 3, 4, 5, 6, 7, 8, 9, 10, 11, 12, 13, 14] (by decide) (fun _ => rfl) (fun hg => vx_runSW (As := [.ref q0, .int (((f_L_cell L xs v30_3) / 8) - ((f_L_cell L xs v30_3) / 8) / 14 * 14)]) (rest := []) ⟨hx, hb, hml, hown, hts⟩ (c_L_clear l D cI q0 n1_0 n1_1 n1_2 n1_3 n1_4 n1_5 n1_6 n1_7 n1_8 n1_9 n1_10 n1_11 n1_12 n1_13 xr_30 xt_30 gn_30 gu_30 gb_30 ga_30 lc_30 lk_30 ln_30 lt_30 ll_30 lr_30 tw_30 tn_30 tt_30 _ (((f_L_cell L xs v30_3) / 8) - ((f_L_cell L xs v30_3) / 8) / 14 * 14) hq72 hst) (vx_cwSW 2 hts gL_law_L_clear rfl rfl rfl (by decide +kernel) ⟨Nat.le_of_ble_eq_true rfl, Nat.le_of_ble_eq_true rfl⟩) ⟨PX.blind, fun U hU hW => ⟨rfl, hg U hU hW⟩⟩ rfl rfl hl.1 rfl (lv_room ((by exact Nat.le_of_ble_eq_true rfl))) dL_law_288 ⟨(by show (kc30 + 1) + 2 ≤ 918419; omega), (by show (ks30 + 6) + 12 ≤ 6345925; omega)⟩) (fun r72 u H locs hw hP hD hS => ?_)
                        obtain ⟨u72_0, u72_1, u72_2, u72_3, u72_4, u72_5, u72_6⟩ := u
                        rw [hw] at he
                        try dsimp only at he
                        replace hp := hp r72 u72_0 u72_1 u72_2 u72_3 u72_4 u72_5 u72_6 hw
                        have hP : va_P D vwCl (W_X4 cI q0 n1_0 n1_1 n1_2 n1_3 n1_4 n1_5 n1_6 n1_7 n1_8 n1_9 n1_10 n1_11 n1_12 n1_13 u72_0 xt_30 gn_30 gu_30 gb_30 ga_30 u72_1 u72_2 u72_3 u72_4 u72_5 lr_30 tw_30 u72_6 tt_30) H := hP
                        have hD : va_D A (W_X4 cI q0 n1_0 n1_1 n1_2 n1_3 n1_4 n1_5 n1_6 n1_7 n1_8 n1_9 n1_10 n1_11 n1_12 n1_13 u72_0 xt_30 gn_30 gu_30 gb_30 ga_30 u72_1 u72_2 u72_3 u72_4 u72_5 lr_30 tw_30 u72_6 tt_30) := hD
                        refine lv_if_lt (tgt := 326) hx hb dL_law_291 (by decide) (fun c73 => ?_) (fun c73 => ?_)
                        · replace hp := hp.1 c73
                          replace he := he.trans (if_pos c73)
                          refine lv_iconst (v := 0) hx hb dL_law_326 (by decide) ?_
                          refine lv_goto (tgt := 364) hx hb dL_law_327 (by decide) ?_
                          refine lv_istore_n (lv' := [(2, .int 0), (9, .int (f_X4_events lc_30)), (8, .int j40), (6, .int (((f_L_cell L xs v30_3) / 8) - ((f_L_cell L xs v30_3) / 8) / 14 * 14)), (3, .int v30_3), (1, .ref q0), (0, .ref b0)]) hx hb dL_law_364 rfl hl (by decide) rfl (fun ls hl => ?_)
                          refine lv_iload_n hx hb dL_law_365 rfl (lv_at hl 0 rfl) ?_
                          refine lv_if_eq (tgt := 393) hx hb dL_law_366 (by decide) (fun _ => ?_) (fun c75 => absurd c75 (by decide))
                          refine lv_iconst (v := 0) hx hb dL_law_393 (by decide) ?_
                          refine lv_istore_n (lv' := [(2, .int 0), (9, .int (f_X4_events lc_30)), (8, .int j40), (6, .int (((f_L_cell L xs v30_3) / 8) - ((f_L_cell L xs v30_3) / 8) / 14 * 14)), (3, .int v30_3), (1, .ref q0), (0, .ref b0)]) hx hb dL_law_394 rfl hl (by decide) rfl (fun ls hl => ?_)
                          refine lv_iload_n hx hb dL_law_395 rfl (lv_at hl 0 rfl) ?_
                          refine lv_if_eq (tgt := 429) hx hb dL_law_396 (by decide) (fun _ => ?_) (fun c74 => absurd c74 (by decide))
                          refine lv_iconst (v := 0) hx hb dL_law_429 (by decide) ?_
                          refine lv_istore_n (lv' := [(2, .int 0), (9, .int (f_X4_events lc_30)), (8, .int j40), (6, .int (((f_L_cell L xs v30_3) / 8) - ((f_L_cell L xs v30_3) / 8) / 14 * 14)), (3, .int v30_3), (1, .ref q0), (0, .ref b0)]) hx hb dL_law_430 rfl hl (by decide) rfl (fun ls hl => ?_)
                          refine lv_iinc (v := (v30_3 + 1)) (lv' := [(3, .int (v30_3 + 1)), (2, .int 0), (9, .int (f_X4_events lc_30)), (8, .int j40), (6, .int (((f_L_cell L xs v30_3) / 8) - ((f_L_cell L xs v30_3) / 8) / 14 * 14)), (1, .ref q0), (0, .ref b0)]) hx hb dL_law_431 hl (k := 4) rfl rfl (by decide) rfl (fun ls hl => ?_)
                          refine lv_goto (tgt := 30) hx hb dL_law_434 (by decide) ?_
                          refine W.widen (k := kc30 + 15968) (n := ks30 + 95519) (by omega) (by omega) ?_
                          exact ih _ _ _ _ _ _ _ _ _ _ _ _ _ _ _ _ _ (kc30 + 15968) (ks30 + 95519) (by omega) (by omega) hp he _ _ hP hD hS _ (lv_sub hl [0, 1, 5, 6] rfl)
                        · replace hp := hp.2 c73
                          replace he := he.trans (if_neg c73)
                          refine lv_aload_n hx hb dL_law_294 rfl (lv_at hl 4 rfl) ?_
                          refine lv_iload hx hb dL_law_295 (lv_at hl 2 rfl) ?_
                          have hq76 := hp.1
                          replace hp := hp.2
                          refine k_ycalli (S := Unit) (wc := (W_X4 cI q0 n1_0 n1_1 n1_2 n1_3 n1_4 n1_5 n1_6 n1_7 n1_8 n1_9 n1_10 n1_11 n1_12 n1_13 u72_0 xt_30 gn_30 gu_30 gb_30 ga_30 u72_1 u72_2 u72_3 u72_4 u72_5 lr_30 tw_30 u72_6 tt_30)) (wr := ([] : va_W)) (w1 := fun u => (W_X4 cI q0 n1_0 n1_1 n1_2 n1_3 n1_4 n1_5 n1_6 n1_7 n1_8 n1_9 n1_10 n1_11 n1_12 n1_13 u72_0 xt_30 gn_30 gu_30 gb_30 ga_30 u72_1 u72_2 u72_3 u72_4 u72_5 lr_30 tw_30 u72_6 tt_30)) (fun u => (W_X4 cI q0 n1_0 n1_1 n1_2 n1_3 n1_4 n1_5 n1_6 n1_7 n1_8 n1_9 n1_10 n1_11 n1_12 n1_13 u72_0 xt_30 gn_30 gu_30 gb_30 ga_30 u72_1 u72_2 u72_3 u72_4 u72_5 lr_30 tw_30 u72_6 tt_30)) hP (hK.sub [0] rfl) hD hN hXB hS hA [0, 1, 2, 3, 4, 5, 6, 7, 8, 9, 10, 11, 12, 13, 14] [] rfl rfl (by decide) (by decide) (by decide) [0, 1, 2, 3, 4, 5, 6, 7, 8, 9, 10, 11, 12, 13, 14] (by decide) (fun _ => rfl) (fun hg => vx_runSW (As := [.ref q0, .int (((f_L_cell L xs v30_3) / 8) - ((f_L_cell L xs v30_3) / 8) / 14 * 14)]) (rest := []) ⟨hx, hb, hml, hown, hts⟩ (c_L_ticket l D cI q0 n1_0 n1_1 n1_2 n1_3 n1_4 n1_5 n1_6 n1_7 n1_8 n1_9 n1_10 n1_11 n1_12 n1_13 u72_0 xt_30 gn_30 gu_30 gb_30 ga_30 u72_1 u72_2 u72_3 u72_4 u72_5 lr_30 tw_30 u72_6 tt_30 _ (((f_L_cell L xs v30_3) / 8) - ((f_L_cell L xs v30_3) / 8) / 14 * 14) hq76 hst) (vx_cwSW 2 hts gL_law_L_ticket rfl rfl rfl (by decide +kernel) ⟨Nat.le_of_ble_eq_true rfl, Nat.le_of_ble_eq_true rfl⟩) ⟨PX.blind, fun U hU hW => ⟨rfl, hg U hU hW⟩⟩ rfl rfl hl.1 rfl (lv_room ((by exact Nat.le_of_ble_eq_true rfl))) dL_law_297 ⟨(by show (kc30 + 3) + 1 ≤ 918419; omega), (by show (ks30 + 18) + 6 ≤ 6345925; omega)⟩) (fun r76 u H locs hw hP hD hS => ?_)
                          subst hw
                          refine lv_iconst (v := (-1)) hx hb dL_law_300 (by decide) ?_
                          refine lv_icmp_ne (tgt := 326) hx hb dL_law_301 (by decide) (fun c77 => ?_) (fun c77 => ?_)
                          · replace hp := hp.2 c77
                            replace he := he.trans (if_neg c77)
                            refine lv_iconst (v := 0) hx hb dL_law_326 (by decide) ?_
                            refine lv_goto (tgt := 364) hx hb dL_law_327 (by decide) ?_
                            refine lv_istore_n (lv' := [(2, .int 0), (9, .int (f_X4_events lc_30)), (8, .int j40), (6, .int (((f_L_cell L xs v30_3) / 8) - ((f_L_cell L xs v30_3) / 8) / 14 * 14)), (3, .int v30_3), (1, .ref q0), (0, .ref b0)]) hx hb dL_law_364 rfl hl (by decide) rfl (fun ls hl => ?_)
                            refine lv_iload_n hx hb dL_law_365 rfl (lv_at hl 0 rfl) ?_
                            refine lv_if_eq (tgt := 393) hx hb dL_law_366 (by decide) (fun _ => ?_) (fun c79 => absurd c79 (by decide))
                            refine lv_iconst (v := 0) hx hb dL_law_393 (by decide) ?_
                            refine lv_istore_n (lv' := [(2, .int 0), (9, .int (f_X4_events lc_30)), (8, .int j40), (6, .int (((f_L_cell L xs v30_3) / 8) - ((f_L_cell L xs v30_3) / 8) / 14 * 14)), (3, .int v30_3), (1, .ref q0), (0, .ref b0)]) hx hb dL_law_394 rfl hl (by decide) rfl (fun ls hl => ?_)
                            refine lv_iload_n hx hb dL_law_395 rfl (lv_at hl 0 rfl) ?_
                            refine lv_if_eq (tgt := 429) hx hb dL_law_396 (by decide) (fun _ => ?_) (fun c78 => absurd c78 (by decide))
                            refine lv_iconst (v := 0) hx hb dL_law_429 (by decide) ?_
                            refine lv_istore_n (lv' := [(2, .int 0), (9, .int (f_X4_events lc_30)), (8, .int j40), (6, .int (((f_L_cell L xs v30_3) / 8) - ((f_L_cell L xs v30_3) / 8) / 14 * 14)), (3, .int v30_3), (1, .ref q0), (0, .ref b0)]) hx hb dL_law_430 rfl hl (by decide) rfl (fun ls hl => ?_)
                            refine lv_iinc (v := (v30_3 + 1)) (lv' := [(3, .int (v30_3 + 1)), (2, .int 0), (9, .int (f_X4_events lc_30)), (8, .int j40), (6, .int (((f_L_cell L xs v30_3) / 8) - ((f_L_cell L xs v30_3) / 8) / 14 * 14)), (1, .ref q0), (0, .ref b0)]) hx hb dL_law_431 hl (k := 4) rfl rfl (by decide) rfl (fun ls hl => ?_)
                            refine lv_goto (tgt := 30) hx hb dL_law_434 (by decide) ?_
                            refine W.widen (k := kc30 + 15968) (n := ks30 + 95519) (by omega) (by omega) ?_
                            exact ih _ _ _ _ _ _ _ _ _ _ _ _ _ _ _ _ _ (kc30 + 15968) (ks30 + 95519) (by omega) (by omega) hp he _ _ hP hD hS _ (lv_sub hl [0, 1, 5, 6] rfl)
                          · replace hp := hp.1 c77
                            replace he := he.trans (if_pos c77)
                            refine lv_aload_n hx hb dL_law_304 rfl (lv_at hl 4 rfl) ?_
                            refine lv_iload hx hb dL_law_305 (lv_at hl 2 rfl) ?_
                            have hq80 := hp.1
                            replace hp := hp.2
                            refine k_ycalli (S := Int32 × Int32 × AA × AA × AA × AA × AA × Int32 × AA × AA) (wc := (W_X4 cI q0 n1_0 n1_1 n1_2 n1_3 n1_4 n1_5 n1_6 n1_7 n1_8 n1_9 n1_10 n1_11 n1_12 n1_13 u72_0 xt_30 gn_30 gu_30 gb_30 ga_30 u72_1 u72_2 u72_3 u72_4 u72_5 lr_30 tw_30 u72_6 tt_30)) (wr := ([] : va_W)) (w1 := fun u => (W_X4 cI q0 n1_0 n1_1 n1_2 n1_3 n1_4 n1_5 n1_6 n1_7 n1_8 n1_9 n1_10 n1_11 n1_12 n1_13 u.1 xt_30 gn_30 gu_30 gb_30 ga_30 u.2.1 u.2.2.1 u.2.2.2.1 u.2.2.2.2.1 u.2.2.2.2.2.1 u.2.2.2.2.2.2.1 u.2.2.2.2.2.2.2.1 u.2.2.2.2.2.2.2.2.1 u.2.2.2.2.2.2.2.2.2)) (fun u => (W_X4 cI q0 n1_0 n1_1 n1_2 n1_3 n1_4 n1_5 n1_6 n1_7 n1_8 n1_9 n1_10 n1_11 n1_12 n1_13 u.1 xt_30 gn_30 gu_30 gb_30 ga_30 u.2.1 u.2.2.1 u.2.2.2.1 u.2.2.2.2.1 u.2.2.2.2.2.1 u.2.2.2.2.2.2.1 u.2.2.2.2.2.2.2.1 u.2.2.2.2.2.2.2.2.1 u.2.2.2.2.2.2.2.2.2)) hP (hK.sub [0] rfl) hD hN hXB hS hA [0, 1, 2, 3, 4, 5, 6, 7, 8, 9, 10, 11, 12, 13, 14] [] rfl rfl (by decide) (by decide) (by decide) [0, 1, 2, 3, 4, 5, 6, 7, 8, 9, 10, 11, 12, 13, 14] (by decide) (fun _ => rfl) (fun hg => vx_runSW (As := [.ref q0, .int (((f_L_cell L xs v30_3) / 8) - ((f_L_cell L xs v30_3) / 8) / 14 * 14)]) (rest := []) ⟨hx, hb, hml, hown, hts⟩ (c_L_raise l D cI q0 n1_0 n1_1 n1_2 n1_3 n1_4 n1_5 n1_6 n1_7 n1_8 n1_9 n1_10 n1_11 n1_12 n1_13 u72_0 xt_30 gn_30 gu_30 gb_30 ga_30 u72_1 u72_2 u72_3 u72_4 u72_5 lr_30 tw_30 u72_6 tt_30 _ (((f_L_cell L xs v30_3) / 8) - ((f_L_cell L xs v30_3) / 8) / 14 * 14) hq80 hst) (vx_cwSW 2 hts gL_law_L_raise rfl rfl rfl (by decide +kernel) ⟨Nat.le_of_ble_eq_true rfl, Nat.le_of_ble_eq_true rfl⟩) ⟨PX.blind, fun U hU hW => ⟨rfl, hg U hU hW⟩⟩ rfl rfl hl.1 rfl (lv_room ((by exact Nat.le_of_ble_eq_true rfl))) dL_law_307 ⟨(by show (kc30 + 4) + 2 ≤ 918419; omega), (by show (ks30 + 24) + 12 ≤ 6345925; omega)⟩) (fun r80 u H locs hw hP hD hS => ?_)
                            obtain ⟨u80_0, u80_1, u80_2, u80_3, u80_4, u80_5, u80_6, u80_7, u80_8, u80_9⟩ := u
                            rw [hw] at he
                            try dsimp only at he
                            replace hp := hp r80 u80_0 u80_1 u80_2 u80_3 u80_4 u80_5 u80_6 u80_7 u80_8 u80_9 hw
                            have hP : va_P D vwCl (W_X4 cI q0 n1_0 n1_1 n1_2 n1_3 n1_4 n1_5 n1_6 n1_7 n1_8 n1_9 n1_10 n1_11 n1_12 n1_13 u80_0 xt_30 gn_30 gu_30 gb_30 ga_30 u80_1 u80_2 u80_3 u80_4 u80_5 u80_6 u80_7 u80_8 u80_9) H := hP
                            have hD : va_D A (W_X4 cI q0 n1_0 n1_1 n1_2 n1_3 n1_4 n1_5 n1_6 n1_7 n1_8 n1_9 n1_10 n1_11 n1_12 n1_13 u80_0 xt_30 gn_30 gu_30 gb_30 ga_30 u80_1 u80_2 u80_3 u80_4 u80_5 u80_6 u80_7 u80_8 u80_9) := hD
                            refine lv_if_le (tgt := 326) hx hb dL_law_310 (by decide) (fun c81 => ?_) (fun c81 => ?_)
                            · replace hp := hp.1 c81
                              replace he := he.trans (if_pos c81)
                              refine lv_iconst (v := 0) hx hb dL_law_326 (by decide) ?_
                              refine lv_goto (tgt := 364) hx hb dL_law_327 (by decide) ?_
                              refine lv_istore_n (lv' := [(2, .int 0), (9, .int (f_X4_events lc_30)), (8, .int j40), (6, .int (((f_L_cell L xs v30_3) / 8) - ((f_L_cell L xs v30_3) / 8) / 14 * 14)), (3, .int v30_3), (1, .ref q0), (0, .ref b0)]) hx hb dL_law_364 rfl hl (by decide) rfl (fun ls hl => ?_)
                              refine lv_iload_n hx hb dL_law_365 rfl (lv_at hl 0 rfl) ?_
                              refine lv_if_eq (tgt := 393) hx hb dL_law_366 (by decide) (fun _ => ?_) (fun c83 => absurd c83 (by decide))
                              refine lv_iconst (v := 0) hx hb dL_law_393 (by decide) ?_
                              refine lv_istore_n (lv' := [(2, .int 0), (9, .int (f_X4_events lc_30)), (8, .int j40), (6, .int (((f_L_cell L xs v30_3) / 8) - ((f_L_cell L xs v30_3) / 8) / 14 * 14)), (3, .int v30_3), (1, .ref q0), (0, .ref b0)]) hx hb dL_law_394 rfl hl (by decide) rfl (fun ls hl => ?_)
                              refine lv_iload_n hx hb dL_law_395 rfl (lv_at hl 0 rfl) ?_
                              refine lv_if_eq (tgt := 429) hx hb dL_law_396 (by decide) (fun _ => ?_) (fun c82 => absurd c82 (by decide))
                              refine lv_iconst (v := 0) hx hb dL_law_429 (by decide) ?_
                              refine lv_istore_n (lv' := [(2, .int 0), (9, .int (f_X4_events lc_30)), (8, .int j40), (6, .int (((f_L_cell L xs v30_3) / 8) - ((f_L_cell L xs v30_3) / 8) / 14 * 14)), (3, .int v30_3), (1, .ref q0), (0, .ref b0)]) hx hb dL_law_430 rfl hl (by decide) rfl (fun ls hl => ?_)
                              refine lv_iinc (v := (v30_3 + 1)) (lv' := [(3, .int (v30_3 + 1)), (2, .int 0), (9, .int (f_X4_events lc_30)), (8, .int j40), (6, .int (((f_L_cell L xs v30_3) / 8) - ((f_L_cell L xs v30_3) / 8) / 14 * 14)), (1, .ref q0), (0, .ref b0)]) hx hb dL_law_431 hl (k := 4) rfl rfl (by decide) rfl (fun ls hl => ?_)
                              refine lv_goto (tgt := 30) hx hb dL_law_434 (by decide) ?_
                              refine W.widen (k := kc30 + 15968) (n := ks30 + 95519) (by omega) (by omega) ?_
                              exact ih _ _ _ _ _ _ _ _ _ _ _ _ _ _ _ _ _ (kc30 + 15968) (ks30 + 95519) (by omega) (by omega) hp he _ _ hP hD hS _ (lv_sub hl [0, 1, 5, 6] rfl)
                            · replace hp := hp.2 c81
                              replace he := he.trans (if_neg c81)
                              refine lv_aload_n hx hb dL_law_313 rfl (lv_at hl 4 rfl) ?_
                              refine lv_iload hx hb dL_law_314 (lv_at hl 2 rfl) ?_
                              have hq84 := hp.1
                              replace hp := hp.2
                              refine k_ycalli (S := Int32 × Int32 × AA × AA × AA × AA × AA) (wc := (W_X4 cI q0 n1_0 n1_1 n1_2 n1_3 n1_4 n1_5 n1_6 n1_7 n1_8 n1_9 n1_10 n1_11 n1_12 n1_13 u80_0 xt_30 gn_30 gu_30 gb_30 ga_30 u80_1 u80_2 u80_3 u80_4 u80_5 u80_6 u80_7 u80_8 u80_9)) (wr := ([] : va_W)) (w1 := fun u => (W_X4 cI q0 n1_0 n1_1 n1_2 n1_3 n1_4 n1_5 n1_6 n1_7 n1_8 n1_9 n1_10 n1_11 n1_12 n1_13 u.1 xt_30 gn_30 gu_30 gb_30 ga_30 u.2.1 u.2.2.1 u.2.2.2.1 u.2.2.2.2.1 u.2.2.2.2.2.1 u80_6 u80_7 u.2.2.2.2.2.2 u80_9)) (fun u => (W_X4 cI q0 n1_0 n1_1 n1_2 n1_3 n1_4 n1_5 n1_6 n1_7 n1_8 n1_9 n1_10 n1_11 n1_12 n1_13 u.1 xt_30 gn_30 gu_30 gb_30 ga_30 u.2.1 u.2.2.1 u.2.2.2.1 u.2.2.2.2.1 u.2.2.2.2.2.1 u80_6 u80_7 u.2.2.2.2.2.2 u80_9)) hP (hK.sub [0] rfl) hD hN hXB hS hA [0, 1, 2, 3, 4, 5, 6, 7, 8, 9, 10, 11, 12, 13, 14] [] rfl rfl (by decide) (by decide) (by decide) [0, 1, 2, 3, 4, 5, 6, 7, 8, 9, 10, 11, 12, 13, 14] (by decide) (fun _ => rfl) (fun hg => vx_runSW (As := [.ref q0, .int (((f_L_cell L xs v30_3) / 8) - ((f_L_cell L xs v30_3) / 8) / 14 * 14)]) (rest := []) ⟨hx, hb, hml, hown, hts⟩ (c_L_clear l D cI q0 n1_0 n1_1 n1_2 n1_3 n1_4 n1_5 n1_6 n1_7 n1_8 n1_9 n1_10 n1_11 n1_12 n1_13 u80_0 xt_30 gn_30 gu_30 gb_30 ga_30 u80_1 u80_2 u80_3 u80_4 u80_5 u80_6 u80_7 u80_8 u80_9 _ (((f_L_cell L xs v30_3) / 8) - ((f_L_cell L xs v30_3) / 8) / 14 * 14) hq84 hst) (vx_cwSW 2 hts gL_law_L_clear rfl rfl rfl (by decide +kernel) ⟨Nat.le_of_ble_eq_true rfl, Nat.le_of_ble_eq_true rfl⟩) ⟨PX.blind, fun U hU hW => ⟨rfl, hg U hU hW⟩⟩ rfl rfl hl.1 rfl (lv_room ((by exact Nat.le_of_ble_eq_true rfl))) dL_law_316 ⟨(by show (kc30 + 6) + 2 ≤ 918419; omega), (by show (ks30 + 36) + 12 ≤ 6345925; omega)⟩) (fun r84 u H locs hw hP hD hS => ?_)
                              obtain ⟨u84_0, u84_1, u84_2, u84_3, u84_4, u84_5, u84_6⟩ := u
                              rw [hw] at he
                              try dsimp only at he
                              replace hp := hp r84 u84_0 u84_1 u84_2 u84_3 u84_4 u84_5 u84_6 hw
                              have hP : va_P D vwCl (W_X4 cI q0 n1_0 n1_1 n1_2 n1_3 n1_4 n1_5 n1_6 n1_7 n1_8 n1_9 n1_10 n1_11 n1_12 n1_13 u84_0 xt_30 gn_30 gu_30 gb_30 ga_30 u84_1 u84_2 u84_3 u84_4 u84_5 u80_6 u80_7 u84_6 u80_9) H := hP
                              have hD : va_D A (W_X4 cI q0 n1_0 n1_1 n1_2 n1_3 n1_4 n1_5 n1_6 n1_7 n1_8 n1_9 n1_10 n1_11 n1_12 n1_13 u84_0 xt_30 gn_30 gu_30 gb_30 ga_30 u84_1 u84_2 u84_3 u84_4 u84_5 u80_6 u80_7 u84_6 u80_9) := hD
                              obtain ⟨j85, hJ85⟩ : ∃ z : Int32, z = (if r84 < 0 then (0 : Int32) else (1 : Int32)) := ⟨_, rfl⟩
                              rw [← hJ85] at he
                              try dsimp only at he
                              have hpJ85 := hp.1
                              replace hp := hp.2 _  hJ85.symm
                              have kont85 : (j85 = 0 ∨ j85 = 1) → ∀ (H : Heap) (locs : List Loc), va_P D vwCl (W_X4 cI q0 n1_0 n1_1 n1_2 n1_3 n1_4 n1_5 n1_6 n1_7 n1_8 n1_9 n1_10 n1_11 n1_12 n1_13 u84_0 xt_30 gn_30 gu_30 gb_30 ga_30 u84_1 u84_2 u84_3 u84_4 u84_5 u80_6 u80_7 u84_6 u80_9) H → va_D A (W_X4 cI q0 n1_0 n1_1 n1_2 n1_3 n1_4 n1_5 n1_6 n1_7 n1_8 n1_9 n1_10 n1_11 n1_12 n1_13 u84_0 xt_30 gn_30 gu_30 gb_30 ga_30 u84_1 u84_2 u84_3 u84_4 u84_5 u80_6 u80_7 u84_6 u80_9) → va_S A s.heap H locs → ∀ ls : Array Slot, lv_has ls 10 [(9, .int (f_X4_events lc_30)), (8, .int j40), (3, .int v30_3), (1, .ref q0), (0, .ref b0)] → W p l e room_1 s m #[Value.ref b0] below meth c H locs (kc30 + 8) (ks30 + 48) (lw_Z below #[Value.ref b0] s) (F0 m 364 ls [.int j85]) := by
                                intro hb85 H locs hP hD hS ls hl
                                refine lv_istore_n (lv' := [(2, .int j85), (9, .int (f_X4_events lc_30)), (8, .int j40), (3, .int v30_3), (1, .ref q0), (0, .ref b0)]) hx hb dL_law_364 rfl hl (by decide) rfl (fun ls hl => ?_)
                                refine lv_iload_n hx hb dL_law_365 rfl (lv_at hl 0 rfl) ?_
                                obtain ⟨j87, hJ87⟩ : ∃ z : Int32, z = (if j85 = 0 then (0 : Int32) else (if j40 = 0 then (if (f_X4_events u84_1) = ((f_X4_events lc_30) + 1) then (1 : Int32) else (0 : Int32)) else (if (f_X4_events u84_1) = ((f_X4_events lc_30) + 3) then (1 : Int32) else (0 : Int32)))) := ⟨_, rfl⟩
                                rw [← hJ87] at he
                                try dsimp only at he
                                have hpJ87 := hp.1
                                replace hp := hp.2 _  hJ87.symm
                                have kont87 : (j87 = 0 ∨ j87 = 1) → ∀ (H : Heap) (locs : List Loc), va_P D vwCl (W_X4 cI q0 n1_0 n1_1 n1_2 n1_3 n1_4 n1_5 n1_6 n1_7 n1_8 n1_9 n1_10 n1_11 n1_12 n1_13 u84_0 xt_30 gn_30 gu_30 gb_30 ga_30 u84_1 u84_2 u84_3 u84_4 u84_5 u80_6 u80_7 u84_6 u80_9) H → va_D A (W_X4 cI q0 n1_0 n1_1 n1_2 n1_3 n1_4 n1_5 n1_6 n1_7 n1_8 n1_9 n1_10 n1_11 n1_12 n1_13 u84_0 xt_30 gn_30 gu_30 gb_30 ga_30 u84_1 u84_2 u84_3 u84_4 u84_5 u80_6 u80_7 u84_6 u80_9) → va_S A s.heap H locs → ∀ ls : Array Slot, lv_has ls 10 [(3, .int v30_3), (1, .ref q0), (0, .ref b0)] → W p l e room_1 s m #[Value.ref b0] below meth c H locs (kc30 + 8) (ks30 + 48) (lw_Z below #[Value.ref b0] s) (F0 m 394 ls [.int j87]) := by
                                  intro hb87 H locs hP hD hS ls hl
                                  refine lv_istore_n (lv' := [(2, .int j87), (3, .int v30_3), (1, .ref q0), (0, .ref b0)]) hx hb dL_law_394 rfl hl (by decide) rfl (fun ls hl => ?_)
                                  refine lv_iload_n hx hb dL_law_395 rfl (lv_at hl 0 rfl) ?_
                                  obtain ⟨j93, hJ93⟩ : ∃ z : Int32, z = (if j87 = 0 then (0 : Int32) else (if 0 < (v30_3 - v30_3 / 5 * 5) then (if 0 < (v30_3 - v30_3 / 3 * 3) then (1 : Int32) else (if (f_L_causes u84_0 gn_30 gu_30 gb_30 ga_30 u84_6) = 0 then (0 : Int32) else (1 : Int32))) else (if (f_L_hangs gn_30 gb_30) = 0 then (0 : Int32) else (if 0 < (v30_3 - v30_3 / 3 * 3) then (1 : Int32) else (if (f_L_causes u84_0 gn_30 gu_30 gb_30 ga_30 u84_6) = 0 then (0 : Int32) else (1 : Int32)))))) := ⟨_, rfl⟩
                                  rw [← hJ93] at he
                                  try dsimp only at he
                                  have hpJ93 := hp.1
                                  replace hp := hp.2 _  hJ93.symm
                                  have kont93 : (j93 = 0 ∨ j93 = 1) → ∀ (H : Heap) (locs : List Loc), va_P D vwCl (W_X4 cI q0 n1_0 n1_1 n1_2 n1_3 n1_4 n1_5 n1_6 n1_7 n1_8 n1_9 n1_10 n1_11 n1_12 n1_13 u84_0 xt_30 gn_30 gu_30 gb_30 ga_30 u84_1 u84_2 u84_3 u84_4 u84_5 u80_6 u80_7 u84_6 u80_9) H → va_D A (W_X4 cI q0 n1_0 n1_1 n1_2 n1_3 n1_4 n1_5 n1_6 n1_7 n1_8 n1_9 n1_10 n1_11 n1_12 n1_13 u84_0 xt_30 gn_30 gu_30 gb_30 ga_30 u84_1 u84_2 u84_3 u84_4 u84_5 u80_6 u80_7 u84_6 u80_9) → va_S A s.heap H locs → ∀ ls : Array Slot, lv_has ls 10 [(3, .int v30_3), (1, .ref q0), (0, .ref b0)] → W p l e room_1 s m #[Value.ref b0] below meth c H locs (kc30 + 15968) (ks30 + 95519) (lw_Z below #[Value.ref b0] s) (F0 m 430 ls [.int j93]) := by
                                    intro hb93 H locs hP hD hS ls hl
                                    refine lv_istore_n (lv' := [(2, .int j93), (3, .int v30_3), (1, .ref q0), (0, .ref b0)]) hx hb dL_law_430 rfl hl (by decide) rfl (fun ls hl => ?_)
                                    refine lv_iinc (v := (v30_3 + 1)) (lv' := [(3, .int (v30_3 + 1)), (2, .int j93), (1, .ref q0), (0, .ref b0)]) hx hb dL_law_431 hl (k := 1) rfl rfl (by decide) rfl (fun ls hl => ?_)
                                    refine lv_goto (tgt := 30) hx hb dL_law_434 (by decide) ?_
                                    refine W.widen (k := kc30 + 15968) (n := ks30 + 95519) (by omega) (by omega) ?_
                                    exact ih _ _ _ _ _ _ _ _ _ _ _ _ _ _ _ _ _ (kc30 + 15968) (ks30 + 95519) (by omega) (by omega) hp he _ _ hP hD hS _ (lv_sub hl [0, 1, 2, 3] rfl)
                                  replace he := hJ93
                                  replace hp := hpJ93
                                  refine lv_if_eq (tgt := 429) hx hb dL_law_396 (by decide) (fun c94 => ?_) (fun c94 => ?_)
                                  · replace hp := hp.1 c94
                                    replace he := he.trans (if_pos c94)
                                    refine lv_iconst (v := 0) hx hb dL_law_429 (by decide) ?_
                                    subst he
                                    refine W.widen (k := (kc30 + 15968)) (n := (ks30 + 95519)) (by omega) (by omega) ?_
                                    exact kont93 (Or.inl rfl) _ _ hP hD hS _ (lv_sub hl [1, 2, 3] rfl)
                                  · replace hp := hp.2 c94
                                    replace he := he.trans (if_neg c94)
                                    refine lv_iload_n hx hb dL_law_399 rfl (lv_at hl 1 rfl) ?_
                                    refine lv_iconst (v := 5) hx hb dL_law_400 (by decide) ?_
                                    refine lv_irem hx hb dL_law_401 (by decide) ?_
                                    refine lv_if_gt (tgt := 412) hx hb dL_law_402 (by decide) (fun c95 => ?_) (fun c95 => ?_)
                                    · replace hp := hp.1 c95
                                      replace he := he.trans (if_pos c95)
                                      refine lv_iload_n hx hb dL_law_412 rfl (lv_at hl 1 rfl) ?_
                                      refine lv_iconst (v := 3) hx hb dL_law_413 (by decide) ?_
                                      refine lv_irem hx hb dL_law_414 (by decide) ?_
                                      refine lv_if_gt (tgt := 425) hx hb dL_law_415 (by decide) (fun c96 => ?_) (fun c96 => ?_)
                                      · replace hp := hp.1 c96
                                        replace he := he.trans (if_pos c96)
                                        refine lv_iconst (v := 1) hx hb dL_law_425 (by decide) ?_
                                        refine lv_goto (tgt := 430) hx hb dL_law_426 (by decide) ?_
                                        subst he
                                        refine W.widen (k := (kc30 + 15968)) (n := (ks30 + 95519)) (by omega) (by omega) ?_
                                        exact kont93 (Or.inr rfl) _ _ hP hD hS _ (lv_sub hl [1, 2, 3] rfl)
                                      · replace hp := hp.2 c96
                                        replace he := he.trans (if_neg c96)
                                        refine lv_aload_n hx hb dL_law_418 rfl (lv_at hl 2 rfl) ?_
                                        have hq97 := hp.1
                                        replace hp := hp.2
                                        refine k_ycalli (S := Unit) (wc := (W_X4 cI q0 n1_0 n1_1 n1_2 n1_3 n1_4 n1_5 n1_6 n1_7 n1_8 n1_9 n1_10 n1_11 n1_12 n1_13 u84_0 xt_30 gn_30 gu_30 gb_30 ga_30 u84_1 u84_2 u84_3 u84_4 u84_5 u80_6 u80_7 u84_6 u80_9)) (wr := ([] : va_W)) (w1 := fun u => (W_X4 cI q0 n1_0 n1_1 n1_2 n1_3 n1_4 n1_5 n1_6 n1_7 n1_8 n1_9 n1_10 n1_11 n1_12 n1_13 u84_0 xt_30 gn_30 gu_30 gb_30 ga_30 u84_1 u84_2 u84_3 u84_4 u84_5 u80_6 u80_7 u84_6 u80_9)) (fun u => (W_X4 cI q0 n1_0 n1_1 n1_2 n1_3 n1_4 n1_5 n1_6 n1_7 n1_8 n1_9 n1_10 n1_11 n1_12 n1_13 u84_0 xt_30 gn_30 gu_30 gb_30 ga_30 u84_1 u84_2 u84_3 u84_4 u84_5 u80_6 u80_7 u84_6 u80_9)) hP (hK.sub [0] rfl) hD hN hXB hS hA [0, 1, 2, 3, 4, 5, 6, 7, 8, 9, 10, 11, 12, 13, 14] [] rfl rfl (by decide) (by decide) (by decide) [0, 1, 2, 3, 4, 5, 6, 7, 8, 9, 10, 11, 12, 13, 14] (by decide) (fun _ => rfl) (fun hg => va_runS (As := [.ref q0]) (rest := []) ⟨hx, hb, hml, hown, hts⟩ (c_L_causes l D cI q0 n1_0 n1_1 n1_2 n1_3 n1_4 n1_5 n1_6 n1_7 n1_8 n1_9 n1_10 n1_11 n1_12 n1_13 u84_0 xt_30 gn_30 gu_30 gb_30 ga_30 u84_1 u84_2 u84_3 u84_4 u84_5 u80_6 u80_7 u84_6 u80_9 _ hq97 hst) (va_cwS 1 hts gL_law_L_causes rfl rfl rfl (by decide +kernel) ⟨Nat.le_of_ble_eq_true rfl, Nat.le_of_ble_eq_true rfl⟩) ⟨PX.blind, fun U hU hW => ⟨rfl, hg U hU hW⟩⟩ rfl rfl hl.1 rfl (lv_room ((by exact Nat.le_of_ble_eq_true rfl))) dL_law_419 ⟨(by show (kc30 + 8) + 1095 ≤ 918419; omega), (by show (ks30 + 48) + 6281 ≤ 6345925; omega)⟩) (fun r97 u H locs hw hP hD hS => ?_)
                                        obtain ⟨hw, hb97⟩ := hw
                                        subst hw
                                        refine lv_if_eq (tgt := 429) hx hb dL_law_422 (by decide) (fun c98 => ?_) (fun c98 => ?_)
                                        · replace hp := hp.1 c98
                                          replace he := he.trans (if_pos c98)
                                          refine lv_iconst (v := 0) hx hb dL_law_429 (by decide) ?_
                                          subst he
                                          refine W.widen (k := (kc30 + 15968)) (n := (ks30 + 95519)) (by omega) (by omega) ?_
                                          exact kont93 (Or.inl rfl) _ _ hP hD hS _ (lv_sub hl [1, 2, 3] rfl)
                                        · replace hp := hp.2 c98
                                          replace he := he.trans (if_neg c98)
                                          refine lv_iconst (v := 1) hx hb dL_law_425 (by decide) ?_
                                          refine lv_goto (tgt := 430) hx hb dL_law_426 (by decide) ?_
                                          subst he
                                          refine W.widen (k := (kc30 + 15968)) (n := (ks30 + 95519)) (by omega) (by omega) ?_
                                          exact kont93 (Or.inr rfl) _ _ hP hD hS _ (lv_sub hl [1, 2, 3] rfl)
                                    · replace hp := hp.2 c95
                                      replace he := he.trans (if_neg c95)
                                      refine lv_aload_n hx hb dL_law_405 rfl (lv_at hl 2 rfl) ?_
                                      have hq99 := hp.1
                                      replace hp := hp.2
                                      refine k_ycalli (S := Unit) (wc := (W_X4 cI q0 n1_0 n1_1 n1_2 n1_3 n1_4 n1_5 n1_6 n1_7 n1_8 n1_9 n1_10 n1_11 n1_12 n1_13 u84_0 xt_30 gn_30 gu_30 gb_30 ga_30 u84_1 u84_2 u84_3 u84_4 u84_5 u80_6 u80_7 u84_6 u80_9)) (wr := ([] : va_W)) (w1 := fun u => (W_X4 cI q0 n1_0 n1_1 n1_2 n1_3 n1_4 n1_5 n1_6 n1_7 n1_8 n1_9 n1_10 n1_11 n1_12 n1_13 u84_0 xt_30 gn_30 gu_30 gb_30 ga_30 u84_1 u84_2 u84_3 u84_4 u84_5 u80_6 u80_7 u84_6 u80_9)) (fun u => (W_X4 cI q0 n1_0 n1_1 n1_2 n1_3 n1_4 n1_5 n1_6 n1_7 n1_8 n1_9 n1_10 n1_11 n1_12 n1_13 u84_0 xt_30 gn_30 gu_30 gb_30 ga_30 u84_1 u84_2 u84_3 u84_4 u84_5 u80_6 u80_7 u84_6 u80_9)) hP (hK.sub [0] rfl) hD hN hXB hS hA [0, 1, 2, 3, 4, 5, 6, 7, 8, 9, 10, 11, 12, 13, 14] [] rfl rfl (by decide) (by decide) (by decide) [0, 1, 2, 3, 4, 5, 6, 7, 8, 9, 10, 11, 12, 13, 14] (by decide) (fun _ => rfl) (fun hg => va_runS (As := [.ref q0]) (rest := []) ⟨hx, hb, hml, hown, hts⟩ (c_L_hangs l D cI q0 n1_0 n1_1 n1_2 n1_3 n1_4 n1_5 n1_6 n1_7 n1_8 n1_9 n1_10 n1_11 n1_12 n1_13 u84_0 xt_30 gn_30 gu_30 gb_30 ga_30 u84_1 u84_2 u84_3 u84_4 u84_5 u80_6 u80_7 u84_6 u80_9 _ hq99 hst) (va_cwS 1 hts gL_law_L_hangs rfl rfl rfl (by decide +kernel) ⟨Nat.le_of_ble_eq_true rfl, Nat.le_of_ble_eq_true rfl⟩) ⟨PX.blind, fun U hU hW => ⟨rfl, hg U hU hW⟩⟩ rfl rfl hl.1 rfl (lv_room ((by exact Nat.le_of_ble_eq_true rfl))) dL_law_406 ⟨(by show (kc30 + 8) + 14865 ≤ 918419; omega), (by show (ks30 + 48) + 89190 ≤ 6345925; omega)⟩) (fun r99 u H locs hw hP hD hS => ?_)
                                      obtain ⟨hw, hb99⟩ := hw
                                      subst hw
                                      refine lv_if_eq (tgt := 429) hx hb dL_law_409 (by decide) (fun c100 => ?_) (fun c100 => ?_)
                                      · replace hp := hp.1 c100
                                        replace he := he.trans (if_pos c100)
                                        refine lv_iconst (v := 0) hx hb dL_law_429 (by decide) ?_
                                        subst he
                                        refine W.widen (k := (kc30 + 15968)) (n := (ks30 + 95519)) (by omega) (by omega) ?_
                                        exact kont93 (Or.inl rfl) _ _ hP hD hS _ (lv_sub hl [1, 2, 3] rfl)
                                      · replace hp := hp.2 c100
                                        replace he := he.trans (if_neg c100)
                                        refine lv_iload_n hx hb dL_law_412 rfl (lv_at hl 1 rfl) ?_
                                        refine lv_iconst (v := 3) hx hb dL_law_413 (by decide) ?_
                                        refine lv_irem hx hb dL_law_414 (by decide) ?_
                                        refine lv_if_gt (tgt := 425) hx hb dL_law_415 (by decide) (fun c101 => ?_) (fun c101 => ?_)
                                        · replace hp := hp.1 c101
                                          replace he := he.trans (if_pos c101)
                                          refine lv_iconst (v := 1) hx hb dL_law_425 (by decide) ?_
                                          refine lv_goto (tgt := 430) hx hb dL_law_426 (by decide) ?_
                                          subst he
                                          refine W.widen (k := (kc30 + 15968)) (n := (ks30 + 95519)) (by omega) (by omega) ?_
                                          exact kont93 (Or.inr rfl) _ _ hP hD hS _ (lv_sub hl [1, 2, 3] rfl)
                                        · replace hp := hp.2 c101
                                          replace he := he.trans (if_neg c101)
                                          refine lv_aload_n hx hb dL_law_418 rfl (lv_at hl 2 rfl) ?_
                                          have hq102 := hp.1
                                          replace hp := hp.2
                                          refine k_ycalli (S := Unit) (wc := (W_X4 cI q0 n1_0 n1_1 n1_2 n1_3 n1_4 n1_5 n1_6 n1_7 n1_8 n1_9 n1_10 n1_11 n1_12 n1_13 u84_0 xt_30 gn_30 gu_30 gb_30 ga_30 u84_1 u84_2 u84_3 u84_4 u84_5 u80_6 u80_7 u84_6 u80_9)) (wr := ([] : va_W)) (w1 := fun u => (W_X4 cI q0 n1_0 n1_1 n1_2 n1_3 n1_4 n1_5 n1_6 n1_7 n1_8 n1_9 n1_10 n1_11 n1_12 n1_13 u84_0 xt_30 gn_30 gu_30 gb_30 ga_30 u84_1 u84_2 u84_3 u84_4 u84_5 u80_6 u80_7 u84_6 u80_9)) (fun u => (W_X4 cI q0 n1_0 n1_1 n1_2 n1_3 n1_4 n1_5 n1_6 n1_7 n1_8 n1_9 n1_10 n1_11 n1_12 n1_13 u84_0 xt_30 gn_30 gu_30 gb_30 ga_30 u84_1 u84_2 u84_3 u84_4 u84_5 u80_6 u80_7 u84_6 u80_9)) hP (hK.sub [0] rfl) hD hN hXB hS hA [0, 1, 2, 3, 4, 5, 6, 7, 8, 9, 10, 11, 12, 13, 14] [] rfl rfl (by decide) (by decide) (by decide) [0, 1, 2, 3, 4, 5, 6, 7, 8, 9, 10, 11, 12, 13, 14] (by decide) (fun _ => rfl) (fun hg => va_runS (As := [.ref q0]) (rest := []) ⟨hx, hb, hml, hown, hts⟩ (c_L_causes l D cI q0 n1_0 n1_1 n1_2 n1_3 n1_4 n1_5 n1_6 n1_7 n1_8 n1_9 n1_10 n1_11 n1_12 n1_13 u84_0 xt_30 gn_30 gu_30 gb_30 ga_30 u84_1 u84_2 u84_3 u84_4 u84_5 u80_6 u80_7 u84_6 u80_9 _ hq102 hst) (va_cwS 1 hts gL_law_L_causes rfl rfl rfl (by decide +kernel) ⟨Nat.le_of_ble_eq_true rfl, Nat.le_of_ble_eq_true rfl⟩) ⟨PX.blind, fun U hU hW => ⟨rfl, hg U hU hW⟩⟩ rfl rfl hl.1 rfl (lv_room ((by exact Nat.le_of_ble_eq_true rfl))) dL_law_419 ⟨(by show (kc30 + 14873) + 1095 ≤ 918419; omega), (by show (ks30 + 89238) + 6281 ≤ 6345925; omega)⟩) (fun r102 u H locs hw hP hD hS => ?_)
                                          obtain ⟨hw, hb102⟩ := hw
                                          subst hw
                                          refine lv_if_eq (tgt := 429) hx hb dL_law_422 (by decide) (fun c103 => ?_) (fun c103 => ?_)
                                          · replace hp := hp.1 c103
                                            replace he := he.trans (if_pos c103)
                                            refine lv_iconst (v := 0) hx hb dL_law_429 (by decide) ?_
                                            subst he
                                            exact kont93 (Or.inl rfl) _ _ hP hD hS _ (lv_sub hl [1, 2, 3] rfl)
                                          · replace hp := hp.2 c103
                                            replace he := he.trans (if_neg c103)
                                            refine lv_iconst (v := 1) hx hb dL_law_425 (by decide) ?_
                                            refine lv_goto (tgt := 430) hx hb dL_law_426 (by decide) ?_
                                            subst he
                                            exact kont93 (Or.inr rfl) _ _ hP hD hS _ (lv_sub hl [1, 2, 3] rfl)
                                replace he := hJ87
                                replace hp := hpJ87
                                refine lv_if_eq (tgt := 393) hx hb dL_law_366 (by decide) (fun c88 => ?_) (fun c88 => ?_)
                                · replace hp := hp.1 c88
                                  replace he := he.trans (if_pos c88)
                                  refine lv_iconst (v := 0) hx hb dL_law_393 (by decide) ?_
                                  subst he
                                  exact kont87 (Or.inl rfl) _ _ hP hD hS _ (lv_sub hl [3, 4, 5] rfl)
                                · replace hp := hp.2 c88
                                  replace he := he.trans (if_neg c88)
                                  refine lv_aload_n hx hb dL_law_369 rfl (lv_at hl 4 rfl) ?_
                                  refine k_calli (S := Unit) (wc := (W_X4 cI q0 n1_0 n1_1 n1_2 n1_3 n1_4 n1_5 n1_6 n1_7 n1_8 n1_9 n1_10 n1_11 n1_12 n1_13 u84_0 xt_30 gn_30 gu_30 gb_30 ga_30 u84_1 u84_2 u84_3 u84_4 u84_5 u80_6 u80_7 u84_6 u80_9)) (wr := ([] : va_W)) (w1 := fun u => (W_X4 cI q0 n1_0 n1_1 n1_2 n1_3 n1_4 n1_5 n1_6 n1_7 n1_8 n1_9 n1_10 n1_11 n1_12 n1_13 u84_0 xt_30 gn_30 gu_30 gb_30 ga_30 u84_1 u84_2 u84_3 u84_4 u84_5 u80_6 u80_7 u84_6 u80_9)) (fun u => (W_X4 cI q0 n1_0 n1_1 n1_2 n1_3 n1_4 n1_5 n1_6 n1_7 n1_8 n1_9 n1_10 n1_11 n1_12 n1_13 u84_0 xt_30 gn_30 gu_30 gb_30 ga_30 u84_1 u84_2 u84_3 u84_4 u84_5 u80_6 u80_7 u84_6 u80_9)) hP (hK.sub [0] rfl) hD hN hS hA [0, 1, 2, 3, 4, 5, 6, 7, 8, 9, 10, 11, 12, 13, 14] [] rfl rfl (by decide) (by decide) (by decide) [0, 1, 2, 3, 4, 5, 6, 7, 8, 9, 10, 11, 12, 13, 14] (by decide) (fun _ => rfl) (fun hg => va_runV (As := []) (rest := []) ⟨hx, hb, hml, hown, hts⟩ (c_X4_events l D cI q0 n1_0 n1_1 n1_2 n1_3 n1_4 n1_5 n1_6 n1_7 n1_8 n1_9 n1_10 n1_11 n1_12 n1_13 u84_0 xt_30 gn_30 gu_30 gb_30 ga_30 u84_1 u84_2 u84_3 u84_4 u84_5 u80_6 u80_7 u84_6 u80_9 _ ) (cwV 0 hts gL_law_X4_events rfl rfl rfl (by decide +kernel) ⟨Nat.le_of_ble_eq_true rfl, Nat.le_of_ble_eq_true rfl⟩) ⟨PW.blind, va_recv hK hP (ci := 4) (q0 := 0) rfl rfl, fun U hU hW => ⟨rfl, hg U hU hW⟩⟩ rfl rfl hl.1 rfl (lv_room ((by exact Nat.le_of_ble_eq_true rfl))) dL_law_370 ⟨(by show (kc30 + 8) + 0 ≤ 918419; omega), (by show (ks30 + 48) + 0 ≤ 6345925; omega)⟩) (fun r89 u H locs hw hP hD hS => ?_)
                                  subst hw
                                  refine lv_iload hx hb dL_law_373 (lv_at hl 1 rfl) ?_
                                  refine lv_iload hx hb dL_law_375 (lv_at hl 2 rfl) ?_
                                  refine lv_if_eq (tgt := 384) hx hb dL_law_377 (by decide) (fun c90 => ?_) (fun c90 => ?_)
                                  · replace hp := hp.1 c90
                                    replace he := he.trans (if_pos c90)
                                    refine lv_iconst (v := 1) hx hb dL_law_384 (by decide) ?_
                                    refine lv_iadd hx hb dL_law_385 ?_
                                    refine lv_icmp_ne (tgt := 393) hx hb dL_law_386 (by decide) (fun c91 => ?_) (fun c91 => ?_)
                                    · replace hp := hp.2 c91
                                      replace he := he.trans (if_neg c91)
                                      refine lv_iconst (v := 0) hx hb dL_law_393 (by decide) ?_
                                      subst he
                                      exact kont87 (Or.inl rfl) _ _ hP hD hS _ (lv_sub hl [3, 4, 5] rfl)
                                    · replace hp := hp.1 c91
                                      replace he := he.trans (if_pos c91)
                                      refine lv_iconst (v := 1) hx hb dL_law_389 (by decide) ?_
                                      refine lv_goto (tgt := 394) hx hb dL_law_390 (by decide) ?_
                                      subst he
                                      exact kont87 (Or.inr rfl) _ _ hP hD hS _ (lv_sub hl [3, 4, 5] rfl)
                                  · replace hp := hp.2 c90
                                    replace he := he.trans (if_neg c90)
                                    refine lv_iconst (v := 3) hx hb dL_law_380 (by decide) ?_
                                    refine lv_goto (tgt := 385) hx hb dL_law_381 (by decide) ?_
                                    refine lv_iadd hx hb dL_law_385 ?_
                                    refine lv_icmp_ne (tgt := 393) hx hb dL_law_386 (by decide) (fun c92 => ?_) (fun c92 => ?_)
                                    · replace hp := hp.2 c92
                                      replace he := he.trans (if_neg c92)
                                      refine lv_iconst (v := 0) hx hb dL_law_393 (by decide) ?_
                                      subst he
                                      exact kont87 (Or.inl rfl) _ _ hP hD hS _ (lv_sub hl [3, 4, 5] rfl)
                                    · replace hp := hp.1 c92
                                      replace he := he.trans (if_pos c92)
                                      refine lv_iconst (v := 1) hx hb dL_law_389 (by decide) ?_
                                      refine lv_goto (tgt := 394) hx hb dL_law_390 (by decide) ?_
                                      subst he
                                      exact kont87 (Or.inr rfl) _ _ hP hD hS _ (lv_sub hl [3, 4, 5] rfl)
                              replace he := hJ85
                              replace hp := hpJ85
                              refine lv_if_lt (tgt := 326) hx hb dL_law_319 (by decide) (fun c86 => ?_) (fun c86 => ?_)
                              · replace hp := hp.1 c86
                                replace he := he.trans (if_pos c86)
                                refine lv_iconst (v := 0) hx hb dL_law_326 (by decide) ?_
                                refine lv_goto (tgt := 364) hx hb dL_law_327 (by decide) ?_
                                subst he
                                exact kont85 (Or.inl rfl) _ _ hP hD hS _ (lv_sub hl [0, 1, 3, 4, 5] rfl)
                              · replace hp := hp.2 c86
                                replace he := he.trans (if_neg c86)
                                refine lv_iconst (v := 1) hx hb dL_law_322 (by decide) ?_
                                refine lv_goto (tgt := 364) hx hb dL_law_323 (by decide) ?_
                                subst he
                                exact kont85 (Or.inr rfl) _ _ hP hD hS _ (lv_sub hl [0, 1, 3, 4, 5] rfl)
                    replace he := hJ40
                    replace hp := hpJ40
                    refine lv_if_le (tgt := 271) hx hb dL_law_264 (by decide) (fun c41 => ?_) (fun c41 => ?_)
                    · replace hp := hp.1 c41
                      replace he := he.trans (if_pos c41)
                      refine lv_iconst (v := 0) hx hb dL_law_271 (by decide) ?_
                      subst he
                      exact kont40 (Or.inl rfl) _ _ hP hD hS _ (lv_sub hl [1, 4, 6, 7] rfl)
                    · replace hp := hp.2 c41
                      replace he := he.trans (if_neg c41)
                      refine lv_iconst (v := 1) hx hb dL_law_267 (by decide) ?_
                      refine lv_goto (tgt := 272) hx hb dL_law_268 (by decide) ?_
                      subst he
                      exact kont40 (Or.inr rfl) _ _ hP hD hS _ (lv_sub hl [1, 4, 6, 7] rfl)
                  · replace hp := hp.1 c38
                    replace he := he.trans (if_pos c38)
                    refine lv_aload_n hx hb dL_law_219 rfl (lv_at hl 6 rfl) ?_
                    refine k_calli (S := Unit) (wc := (W_X4 cI q0 n1_0 n1_1 n1_2 n1_3 n1_4 n1_5 n1_6 n1_7 n1_8 n1_9 n1_10 n1_11 n1_12 n1_13 xr_30 xt_30 gn_30 gu_30 gb_30 ga_30 lc_30 lk_30 ln_30 lt_30 ll_30 lr_30 tw_30 tn_30 tt_30)) (wr := ([] : va_W)) (w1 := fun u => (W_X4 cI q0 n1_0 n1_1 n1_2 n1_3 n1_4 n1_5 n1_6 n1_7 n1_8 n1_9 n1_10 n1_11 n1_12 n1_13 xr_30 xt_30 gn_30 gu_30 gb_30 ga_30 lc_30 lk_30 ln_30 lt_30 ll_30 lr_30 tw_30 tn_30 tt_30)) (fun u => (W_X4 cI q0 n1_0 n1_1 n1_2 n1_3 n1_4 n1_5 n1_6 n1_7 n1_8 n1_9 n1_10 n1_11 n1_12 n1_13 xr_30 xt_30 gn_30 gu_30 gb_30 ga_30 lc_30 lk_30 ln_30 lt_30 ll_30 lr_30 tw_30 tn_30 tt_30)) hP (hK.sub [0] rfl) hD hN hS hA [0, 1, 2, 3, 4, 5, 6, 7, 8, 9, 10, 11, 12, 13, 14] [] rfl rfl (by decide) (by decide) (by decide) [0, 1, 2, 3, 4, 5, 6, 7, 8, 9, 10, 11, 12, 13, 14] (by decide) (fun _ => rfl) (fun hg => va_runV (As := []) (rest := []) ⟨hx, hb, hml, hown, hts⟩ (c_X4_now l D cI q0 n1_0 n1_1 n1_2 n1_3 n1_4 n1_5 n1_6 n1_7 n1_8 n1_9 n1_10 n1_11 n1_12 n1_13 xr_30 xt_30 gn_30 gu_30 gb_30 ga_30 lc_30 lk_30 ln_30 lt_30 ll_30 lr_30 tw_30 tn_30 tt_30 _ ) (cwV 0 hts gL_law_X4_now rfl rfl rfl (by decide +kernel) ⟨Nat.le_of_ble_eq_true rfl, Nat.le_of_ble_eq_true rfl⟩) ⟨PW.blind, va_recv hK hP (ci := 4) (q0 := 0) rfl rfl, fun U hU hW => ⟨rfl, hg U hU hW⟩⟩ rfl rfl hl.1 rfl (lv_room ((by exact Nat.le_of_ble_eq_true rfl))) dL_law_220 ⟨(by show kc30 + 0 ≤ 918419; omega), (by show ks30 + 0 ≤ 6345925; omega)⟩) (fun r104 u H locs hw hP hD hS => ?_)
                    subst hw
                    refine lv_istore (lv' := [(8, .int (f_X4_now xt_30)), (7, .int y11_7), (6, .int (((f_L_cell L xs v30_3) / 8) - ((f_L_cell L xs v30_3) / 8) / 14 * 14)), (5, .int ((f_L_cell L xs v30_3) / 8)), (4, .int (f_L_cell L xs v30_3)), (3, .int v30_3), (2, .int v30_2), (1, .ref q0), (0, .ref b0)]) hx hb dL_law_223 hl (by decide) rfl (fun ls hl => ?_)
                    refine lv_aload_n hx hb dL_law_225 rfl (lv_at hl 7 rfl) ?_
                    refine lv_iconst (v := 1) hx hb dL_law_226 (by decide) ?_
                    refine lv_iload hx hb dL_law_227 (lv_at hl 3 rfl) ?_
                    refine lv_bipush (v := 100) hx hb dL_law_229 (by decide) ?_
                    refine lv_irem hx hb dL_law_231 (by decide) ?_
                    refine lv_iadd hx hb dL_law_232 ?_
                    refine k_ycalli (S := Int32) (wc := (W_X4 cI q0 n1_0 n1_1 n1_2 n1_3 n1_4 n1_5 n1_6 n1_7 n1_8 n1_9 n1_10 n1_11 n1_12 n1_13 xr_30 xt_30 gn_30 gu_30 gb_30 ga_30 lc_30 lk_30 ln_30 lt_30 ll_30 lr_30 tw_30 tn_30 tt_30)) (wr := ([] : va_W)) (w1 := fun u => (W_X4 cI q0 n1_0 n1_1 n1_2 n1_3 n1_4 n1_5 n1_6 n1_7 n1_8 n1_9 n1_10 n1_11 n1_12 n1_13 xr_30 u gn_30 gu_30 gb_30 ga_30 lc_30 lk_30 ln_30 lt_30 ll_30 lr_30 tw_30 tn_30 tt_30)) (fun u => (W_X4 cI q0 n1_0 n1_1 n1_2 n1_3 n1_4 n1_5 n1_6 n1_7 n1_8 n1_9 n1_10 n1_11 n1_12 n1_13 xr_30 u gn_30 gu_30 gb_30 ga_30 lc_30 lk_30 ln_30 lt_30 ll_30 lr_30 tw_30 tn_30 tt_30)) hP (hK.sub [0] rfl) hD hN hXB hS hA [0, 1, 2, 3, 4, 5, 6, 7, 8, 9, 10, 11, 12, 13, 14] [] rfl rfl (by decide) (by decide) (by decide) [0, 1, 2, 3, 4, 5, 6, 7, 8, 9, 10, 11, 12, 13, 14] (by decide) (fun _ => rfl) (fun hg => vx_runSW (As := [.ref q0, .int (1 + (((f_L_cell L xs v30_3) / 8) - ((f_L_cell L xs v30_3) / 8) / 100 * 100))]) (rest := []) ⟨hx, hb, hml, hown, hts⟩ (c_L_tick l D cI q0 n1_0 n1_1 n1_2 n1_3 n1_4 n1_5 n1_6 n1_7 n1_8 n1_9 n1_10 n1_11 n1_12 n1_13 xr_30 xt_30 gn_30 gu_30 gb_30 ga_30 lc_30 lk_30 ln_30 lt_30 ll_30 lr_30 tw_30 tn_30 tt_30 _ (1 + (((f_L_cell L xs v30_3) / 8) - ((f_L_cell L xs v30_3) / 8) / 100 * 100)) hst) (vx_cwSW 2 hts gL_law_L_tick rfl rfl rfl (by decide +kernel) ⟨Nat.le_of_ble_eq_true rfl, Nat.le_of_ble_eq_true rfl⟩) ⟨PX.blind, fun U hU hW => ⟨rfl, hg U hU hW⟩⟩ rfl rfl hl.1 rfl (lv_room ((by exact Nat.le_of_ble_eq_true rfl))) dL_law_233 ⟨(by show kc30 + 1 ≤ 918419; omega), (by show ks30 + 6 ≤ 6345925; omega)⟩) (fun r105 u H locs hw hP hD hS => ?_)
                    obtain ⟨u105_0, rfl⟩ : ∃ z, z = u := ⟨_, rfl⟩
                    rw [hw] at he
                    try dsimp only at he
                    replace hp := hp r105 u105_0 hw
                    have hP : va_P D vwCl (W_X4 cI q0 n1_0 n1_1 n1_2 n1_3 n1_4 n1_5 n1_6 n1_7 n1_8 n1_9 n1_10 n1_11 n1_12 n1_13 xr_30 u105_0 gn_30 gu_30 gb_30 ga_30 lc_30 lk_30 ln_30 lt_30 ll_30 lr_30 tw_30 tn_30 tt_30) H := hP
                    have hD : va_D A (W_X4 cI q0 n1_0 n1_1 n1_2 n1_3 n1_4 n1_5 n1_6 n1_7 n1_8 n1_9 n1_10 n1_11 n1_12 n1_13 xr_30 u105_0 gn_30 gu_30 gb_30 ga_30 lc_30 lk_30 ln_30 lt_30 ll_30 lr_30 tw_30 tn_30 tt_30) := hD
                    refine lv_iload hx hb dL_law_236 (lv_at hl 0 rfl) ?_
                    refine lv_iconst (v := 1) hx hb dL_law_238 (by decide) ?_
                    refine lv_iadd hx hb dL_law_239 ?_
                    refine lv_iload hx hb dL_law_240 (lv_at hl 3 rfl) ?_
                    refine lv_bipush (v := 100) hx hb dL_law_242 (by decide) ?_
                    refine lv_irem hx hb dL_law_244 (by decide) ?_
                    refine lv_iadd hx hb dL_law_245 ?_
                    obtain ⟨j106, hJ106⟩ : ∃ z : Int32, z = (if r105 = (((f_X4_now xt_30) + 1) + (((f_L_cell L xs v30_3) / 8) - ((f_L_cell L xs v30_3) / 8) / 100 * 100)) then (1 : Int32) else (0 : Int32)) := ⟨_, rfl⟩
                    rw [← hJ106] at he
                    try dsimp only at he
                    have hpJ106 := hp.1
                    replace hp := hp.2 _  hJ106.symm
                    have kont106 : (j106 = 0 ∨ j106 = 1) → ∀ (H : Heap) (locs : List Loc), va_P D vwCl (W_X4 cI q0 n1_0 n1_1 n1_2 n1_3 n1_4 n1_5 n1_6 n1_7 n1_8 n1_9 n1_10 n1_11 n1_12 n1_13 xr_30 u105_0 gn_30 gu_30 gb_30 ga_30 lc_30 lk_30 ln_30 lt_30 ll_30 lr_30 tw_30 tn_30 tt_30) H → va_D A (W_X4 cI q0 n1_0 n1_1 n1_2 n1_3 n1_4 n1_5 n1_6 n1_7 n1_8 n1_9 n1_10 n1_11 n1_12 n1_13 xr_30 u105_0 gn_30 gu_30 gb_30 ga_30 lc_30 lk_30 ln_30 lt_30 ll_30 lr_30 tw_30 tn_30 tt_30) → va_S A s.heap H locs → ∀ ls : Array Slot, lv_has ls 10 [(3, .int v30_3), (1, .ref q0), (0, .ref b0)] → W p l e room_1 s m #[Value.ref b0] below meth c H locs (kc30 + 1) (ks30 + 6) (lw_Z below #[Value.ref b0] s) (F0 m 254 ls [.int j106]) := by
                      intro hb106 H locs hP hD hS ls hl
                      refine lv_istore_n (lv' := [(2, .int j106), (3, .int v30_3), (1, .ref q0), (0, .ref b0)]) hx hb dL_law_254 rfl hl (by decide) rfl (fun ls hl => ?_)
                      refine lv_goto (tgt := 395) hx hb dL_law_255 (by decide) ?_
                      refine lv_iload_n hx hb dL_law_395 rfl (lv_at hl 0 rfl) ?_
                      obtain ⟨j108, hJ108⟩ : ∃ z : Int32, z = (if j106 = 0 then (0 : Int32) else (if 0 < (v30_3 - v30_3 / 5 * 5) then (if 0 < (v30_3 - v30_3 / 3 * 3) then (1 : Int32) else (if (f_L_causes xr_30 gn_30 gu_30 gb_30 ga_30 tn_30) = 0 then (0 : Int32) else (1 : Int32))) else (if (f_L_hangs gn_30 gb_30) = 0 then (0 : Int32) else (if 0 < (v30_3 - v30_3 / 3 * 3) then (1 : Int32) else (if (f_L_causes xr_30 gn_30 gu_30 gb_30 ga_30 tn_30) = 0 then (0 : Int32) else (1 : Int32)))))) := ⟨_, rfl⟩
                      rw [← hJ108] at he
                      try dsimp only at he
                      have hpJ108 := hp.1
                      replace hp := hp.2 _  hJ108.symm
                      have kont108 : (j108 = 0 ∨ j108 = 1) → ∀ (H : Heap) (locs : List Loc), va_P D vwCl (W_X4 cI q0 n1_0 n1_1 n1_2 n1_3 n1_4 n1_5 n1_6 n1_7 n1_8 n1_9 n1_10 n1_11 n1_12 n1_13 xr_30 u105_0 gn_30 gu_30 gb_30 ga_30 lc_30 lk_30 ln_30 lt_30 ll_30 lr_30 tw_30 tn_30 tt_30) H → va_D A (W_X4 cI q0 n1_0 n1_1 n1_2 n1_3 n1_4 n1_5 n1_6 n1_7 n1_8 n1_9 n1_10 n1_11 n1_12 n1_13 xr_30 u105_0 gn_30 gu_30 gb_30 ga_30 lc_30 lk_30 ln_30 lt_30 ll_30 lr_30 tw_30 tn_30 tt_30) → va_S A s.heap H locs → ∀ ls : Array Slot, lv_has ls 10 [(3, .int v30_3), (1, .ref q0), (0, .ref b0)] → W p l e room_1 s m #[Value.ref b0] below meth c H locs (kc30 + 15961) (ks30 + 95477) (lw_Z below #[Value.ref b0] s) (F0 m 430 ls [.int j108]) := by
                        intro hb108 H locs hP hD hS ls hl
                        refine lv_istore_n (lv' := [(2, .int j108), (3, .int v30_3), (1, .ref q0), (0, .ref b0)]) hx hb dL_law_430 rfl hl (by decide) rfl (fun ls hl => ?_)
                        refine lv_iinc (v := (v30_3 + 1)) (lv' := [(3, .int (v30_3 + 1)), (2, .int j108), (1, .ref q0), (0, .ref b0)]) hx hb dL_law_431 hl (k := 1) rfl rfl (by decide) rfl (fun ls hl => ?_)
                        refine lv_goto (tgt := 30) hx hb dL_law_434 (by decide) ?_
                        refine W.widen (k := kc30 + 15968) (n := ks30 + 95519) (by omega) (by omega) ?_
                        exact ih _ _ _ _ _ _ _ _ _ _ _ _ _ _ _ _ _ (kc30 + 15968) (ks30 + 95519) (by omega) (by omega) hp he _ _ hP hD hS _ (lv_sub hl [0, 1, 2, 3] rfl)
                      replace he := hJ108
                      replace hp := hpJ108
                      refine lv_if_eq (tgt := 429) hx hb dL_law_396 (by decide) (fun c109 => ?_) (fun c109 => ?_)
                      · replace hp := hp.1 c109
                        replace he := he.trans (if_pos c109)
                        refine lv_iconst (v := 0) hx hb dL_law_429 (by decide) ?_
                        subst he
                        refine W.widen (k := (kc30 + 15961)) (n := (ks30 + 95477)) (by omega) (by omega) ?_
                        exact kont108 (Or.inl rfl) _ _ hP hD hS _ (lv_sub hl [1, 2, 3] rfl)
                      · replace hp := hp.2 c109
                        replace he := he.trans (if_neg c109)
                        refine lv_iload_n hx hb dL_law_399 rfl (lv_at hl 1 rfl) ?_
                        refine lv_iconst (v := 5) hx hb dL_law_400 (by decide) ?_
                        refine lv_irem hx hb dL_law_401 (by decide) ?_
                        refine lv_if_gt (tgt := 412) hx hb dL_law_402 (by decide) (fun c110 => ?_) (fun c110 => ?_)
                        · replace hp := hp.1 c110
                          replace he := he.trans (if_pos c110)
                          refine lv_iload_n hx hb dL_law_412 rfl (lv_at hl 1 rfl) ?_
                          refine lv_iconst (v := 3) hx hb dL_law_413 (by decide) ?_
                          refine lv_irem hx hb dL_law_414 (by decide) ?_
                          refine lv_if_gt (tgt := 425) hx hb dL_law_415 (by decide) (fun c111 => ?_) (fun c111 => ?_)
                          · replace hp := hp.1 c111
                            replace he := he.trans (if_pos c111)
                            refine lv_iconst (v := 1) hx hb dL_law_425 (by decide) ?_
                            refine lv_goto (tgt := 430) hx hb dL_law_426 (by decide) ?_
                            subst he
                            refine W.widen (k := (kc30 + 15961)) (n := (ks30 + 95477)) (by omega) (by omega) ?_
                            exact kont108 (Or.inr rfl) _ _ hP hD hS _ (lv_sub hl [1, 2, 3] rfl)
                          · replace hp := hp.2 c111
                            replace he := he.trans (if_neg c111)
                            refine lv_aload_n hx hb dL_law_418 rfl (lv_at hl 2 rfl) ?_
                            have hq112 := hp.1
                            replace hp := hp.2
                            refine k_ycalli (S := Unit) (wc := (W_X4 cI q0 n1_0 n1_1 n1_2 n1_3 n1_4 n1_5 n1_6 n1_7 n1_8 n1_9 n1_10 n1_11 n1_12 n1_13 xr_30 u105_0 gn_30 gu_30 gb_30 ga_30 lc_30 lk_30 ln_30 lt_30 ll_30 lr_30 tw_30 tn_30 tt_30)) (wr := ([] : va_W)) (w1 := fun u => (W_X4 cI q0 n1_0 n1_1 n1_2 n1_3 n1_4 n1_5 n1_6 n1_7 n1_8 n1_9 n1_10 n1_11 n1_12 n1_13 xr_30 u105_0 gn_30 gu_30 gb_30 ga_30 lc_30 lk_30 ln_30 lt_30 ll_30 lr_30 tw_30 tn_30 tt_30)) (fun u => (W_X4 cI q0 n1_0 n1_1 n1_2 n1_3 n1_4 n1_5 n1_6 n1_7 n1_8 n1_9 n1_10 n1_11 n1_12 n1_13 xr_30 u105_0 gn_30 gu_30 gb_30 ga_30 lc_30 lk_30 ln_30 lt_30 ll_30 lr_30 tw_30 tn_30 tt_30)) hP (hK.sub [0] rfl) hD hN hXB hS hA [0, 1, 2, 3, 4, 5, 6, 7, 8, 9, 10, 11, 12, 13, 14] [] rfl rfl (by decide) (by decide) (by decide) [0, 1, 2, 3, 4, 5, 6, 7, 8, 9, 10, 11, 12, 13, 14] (by decide) (fun _ => rfl) (fun hg => va_runS (As := [.ref q0]) (rest := []) ⟨hx, hb, hml, hown, hts⟩ (c_L_causes l D cI q0 n1_0 n1_1 n1_2 n1_3 n1_4 n1_5 n1_6 n1_7 n1_8 n1_9 n1_10 n1_11 n1_12 n1_13 xr_30 u105_0 gn_30 gu_30 gb_30 ga_30 lc_30 lk_30 ln_30 lt_30 ll_30 lr_30 tw_30 tn_30 tt_30 _ hq112 hst) (va_cwS 1 hts gL_law_L_causes rfl rfl rfl (by decide +kernel) ⟨Nat.le_of_ble_eq_true rfl, Nat.le_of_ble_eq_true rfl⟩) ⟨PX.blind, fun U hU hW => ⟨rfl, hg U hU hW⟩⟩ rfl rfl hl.1 rfl (lv_room ((by exact Nat.le_of_ble_eq_true rfl))) dL_law_419 ⟨(by show (kc30 + 1) + 1095 ≤ 918419; omega), (by show (ks30 + 6) + 6281 ≤ 6345925; omega)⟩) (fun r112 u H locs hw hP hD hS => ?_)
                            obtain ⟨hw, hb112⟩ := hw
                            subst hw
                            refine lv_if_eq (tgt := 429) hx hb dL_law_422 (by decide) (fun c113 => ?_) (fun c113 => ?_)
                            · replace hp := hp.1 c113
                              replace he := he.trans (if_pos c113)
                              refine lv_iconst (v := 0) hx hb dL_law_429 (by decide) ?_
                              subst he
                              refine W.widen (k := (kc30 + 15961)) (n := (ks30 + 95477)) (by omega) (by omega) ?_
                              exact kont108 (Or.inl rfl) _ _ hP hD hS _ (lv_sub hl [1, 2, 3] rfl)
                            · replace hp := hp.2 c113
                              replace he := he.trans (if_neg c113)
                              refine lv_iconst (v := 1) hx hb dL_law_425 (by decide) ?_
                              refine lv_goto (tgt := 430) hx hb dL_law_426 (by decide) ?_
                              subst he
                              refine W.widen (k := (kc30 + 15961)) (n := (ks30 + 95477)) (by omega) (by omega) ?_
                              exact kont108 (Or.inr rfl) _ _ hP hD hS _ (lv_sub hl [1, 2, 3] rfl)
                        · replace hp := hp.2 c110
                          replace he := he.trans (if_neg c110)
                          refine lv_aload_n hx hb dL_law_405 rfl (lv_at hl 2 rfl) ?_
                          have hq114 := hp.1
                          replace hp := hp.2
                          refine k_ycalli (S := Unit) (wc := (W_X4 cI q0 n1_0 n1_1 n1_2 n1_3 n1_4 n1_5 n1_6 n1_7 n1_8 n1_9 n1_10 n1_11 n1_12 n1_13 xr_30 u105_0 gn_30 gu_30 gb_30 ga_30 lc_30 lk_30 ln_30 lt_30 ll_30 lr_30 tw_30 tn_30 tt_30)) (wr := ([] : va_W)) (w1 := fun u => (W_X4 cI q0 n1_0 n1_1 n1_2 n1_3 n1_4 n1_5 n1_6 n1_7 n1_8 n1_9 n1_10 n1_11 n1_12 n1_13 xr_30 u105_0 gn_30 gu_30 gb_30 ga_30 lc_30 lk_30 ln_30 lt_30 ll_30 lr_30 tw_30 tn_30 tt_30)) (fun u => (W_X4 cI q0 n1_0 n1_1 n1_2 n1_3 n1_4 n1_5 n1_6 n1_7 n1_8 n1_9 n1_10 n1_11 n1_12 n1_13 xr_30 u105_0 gn_30 gu_30 gb_30 ga_30 lc_30 lk_30 ln_30 lt_30 ll_30 lr_30 tw_30 tn_30 tt_30)) hP (hK.sub [0] rfl) hD hN hXB hS hA [0, 1, 2, 3, 4, 5, 6, 7, 8, 9, 10, 11, 12, 13, 14] [] rfl rfl (by decide) (by decide) (by decide) [0, 1, 2, 3, 4, 5, 6, 7, 8, 9, 10, 11, 12, 13, 14] (by decide) (fun _ => rfl) (fun hg => va_runS (As := [.ref q0]) (rest := []) ⟨hx, hb, hml, hown, hts⟩ (c_L_hangs l D cI q0 n1_0 n1_1 n1_2 n1_3 n1_4 n1_5 n1_6 n1_7 n1_8 n1_9 n1_10 n1_11 n1_12 n1_13 xr_30 u105_0 gn_30 gu_30 gb_30 ga_30 lc_30 lk_30 ln_30 lt_30 ll_30 lr_30 tw_30 tn_30 tt_30 _ hq114 hst) (va_cwS 1 hts gL_law_L_hangs rfl rfl rfl (by decide +kernel) ⟨Nat.le_of_ble_eq_true rfl, Nat.le_of_ble_eq_true rfl⟩) ⟨PX.blind, fun U hU hW => ⟨rfl, hg U hU hW⟩⟩ rfl rfl hl.1 rfl (lv_room ((by exact Nat.le_of_ble_eq_true rfl))) dL_law_406 ⟨(by show (kc30 + 1) + 14865 ≤ 918419; omega), (by show (ks30 + 6) + 89190 ≤ 6345925; omega)⟩) (fun r114 u H locs hw hP hD hS => ?_)
                          obtain ⟨hw, hb114⟩ := hw
                          subst hw
                          refine lv_if_eq (tgt := 429) hx hb dL_law_409 (by decide) (fun c115 => ?_) (fun c115 => ?_)
                          · replace hp := hp.1 c115
                            replace he := he.trans (if_pos c115)
                            refine lv_iconst (v := 0) hx hb dL_law_429 (by decide) ?_
                            subst he
                            refine W.widen (k := (kc30 + 15961)) (n := (ks30 + 95477)) (by omega) (by omega) ?_
                            exact kont108 (Or.inl rfl) _ _ hP hD hS _ (lv_sub hl [1, 2, 3] rfl)
                          · replace hp := hp.2 c115
                            replace he := he.trans (if_neg c115)
                            refine lv_iload_n hx hb dL_law_412 rfl (lv_at hl 1 rfl) ?_
                            refine lv_iconst (v := 3) hx hb dL_law_413 (by decide) ?_
                            refine lv_irem hx hb dL_law_414 (by decide) ?_
                            refine lv_if_gt (tgt := 425) hx hb dL_law_415 (by decide) (fun c116 => ?_) (fun c116 => ?_)
                            · replace hp := hp.1 c116
                              replace he := he.trans (if_pos c116)
                              refine lv_iconst (v := 1) hx hb dL_law_425 (by decide) ?_
                              refine lv_goto (tgt := 430) hx hb dL_law_426 (by decide) ?_
                              subst he
                              refine W.widen (k := (kc30 + 15961)) (n := (ks30 + 95477)) (by omega) (by omega) ?_
                              exact kont108 (Or.inr rfl) _ _ hP hD hS _ (lv_sub hl [1, 2, 3] rfl)
                            · replace hp := hp.2 c116
                              replace he := he.trans (if_neg c116)
                              refine lv_aload_n hx hb dL_law_418 rfl (lv_at hl 2 rfl) ?_
                              have hq117 := hp.1
                              replace hp := hp.2
                              refine k_ycalli (S := Unit) (wc := (W_X4 cI q0 n1_0 n1_1 n1_2 n1_3 n1_4 n1_5 n1_6 n1_7 n1_8 n1_9 n1_10 n1_11 n1_12 n1_13 xr_30 u105_0 gn_30 gu_30 gb_30 ga_30 lc_30 lk_30 ln_30 lt_30 ll_30 lr_30 tw_30 tn_30 tt_30)) (wr := ([] : va_W)) (w1 := fun u => (W_X4 cI q0 n1_0 n1_1 n1_2 n1_3 n1_4 n1_5 n1_6 n1_7 n1_8 n1_9 n1_10 n1_11 n1_12 n1_13 xr_30 u105_0 gn_30 gu_30 gb_30 ga_30 lc_30 lk_30 ln_30 lt_30 ll_30 lr_30 tw_30 tn_30 tt_30)) (fun u => (W_X4 cI q0 n1_0 n1_1 n1_2 n1_3 n1_4 n1_5 n1_6 n1_7 n1_8 n1_9 n1_10 n1_11 n1_12 n1_13 xr_30 u105_0 gn_30 gu_30 gb_30 ga_30 lc_30 lk_30 ln_30 lt_30 ll_30 lr_30 tw_30 tn_30 tt_30)) hP (hK.sub [0] rfl) hD hN hXB hS hA [0, 1, 2, 3, 4, 5, 6, 7, 8, 9, 10, 11, 12, 13, 14] [] rfl rfl (by decide) (by decide) (by decide) [0, 1, 2, 3, 4, 5, 6, 7, 8, 9, 10, 11, 12, 13, 14] (by decide) (fun _ => rfl) (fun hg => va_runS (As := [.ref q0]) (rest := []) ⟨hx, hb, hml, hown, hts⟩ (c_L_causes l D cI q0 n1_0 n1_1 n1_2 n1_3 n1_4 n1_5 n1_6 n1_7 n1_8 n1_9 n1_10 n1_11 n1_12 n1_13 xr_30 u105_0 gn_30 gu_30 gb_30 ga_30 lc_30 lk_30 ln_30 lt_30 ll_30 lr_30 tw_30 tn_30 tt_30 _ hq117 hst) (va_cwS 1 hts gL_law_L_causes rfl rfl rfl (by decide +kernel) ⟨Nat.le_of_ble_eq_true rfl, Nat.le_of_ble_eq_true rfl⟩) ⟨PX.blind, fun U hU hW => ⟨rfl, hg U hU hW⟩⟩ rfl rfl hl.1 rfl (lv_room ((by exact Nat.le_of_ble_eq_true rfl))) dL_law_419 ⟨(by show (kc30 + 14866) + 1095 ≤ 918419; omega), (by show (ks30 + 89196) + 6281 ≤ 6345925; omega)⟩) (fun r117 u H locs hw hP hD hS => ?_)
                              obtain ⟨hw, hb117⟩ := hw
                              subst hw
                              refine lv_if_eq (tgt := 429) hx hb dL_law_422 (by decide) (fun c118 => ?_) (fun c118 => ?_)
                              · replace hp := hp.1 c118
                                replace he := he.trans (if_pos c118)
                                refine lv_iconst (v := 0) hx hb dL_law_429 (by decide) ?_
                                subst he
                                exact kont108 (Or.inl rfl) _ _ hP hD hS _ (lv_sub hl [1, 2, 3] rfl)
                              · replace hp := hp.2 c118
                                replace he := he.trans (if_neg c118)
                                refine lv_iconst (v := 1) hx hb dL_law_425 (by decide) ?_
                                refine lv_goto (tgt := 430) hx hb dL_law_426 (by decide) ?_
                                subst he
                                exact kont108 (Or.inr rfl) _ _ hP hD hS _ (lv_sub hl [1, 2, 3] rfl)
                    replace he := hJ106
                    replace hp := hpJ106
                    refine lv_icmp_ne (tgt := 253) hx hb dL_law_246 (by decide) (fun c107 => ?_) (fun c107 => ?_)
                    · replace hp := hp.2 c107
                      replace he := he.trans (if_neg c107)
                      refine lv_iconst (v := 0) hx hb dL_law_253 (by decide) ?_
                      subst he
                      exact kont106 (Or.inl rfl) _ _ hP hD hS _ (lv_sub hl [5, 7, 8] rfl)
                    · replace hp := hp.1 c107
                      replace he := he.trans (if_pos c107)
                      refine lv_iconst (v := 1) hx hb dL_law_249 (by decide) ?_
                      refine lv_goto (tgt := 254) hx hb dL_law_250 (by decide) ?_
                      subst he
                      exact kont106 (Or.inr rfl) _ _ hP hD hS _ (lv_sub hl [5, 7, 8] rfl)
                · replace hp := hp.1 c37
                  replace he := he.trans (if_pos c37)
                  refine lv_aload_n hx hb dL_law_167 rfl (lv_at hl 6 rfl) ?_
                  refine lv_iload hx hb dL_law_168 (lv_at hl 1 rfl) ?_
                  refine lv_iload hx hb dL_law_170 (lv_at hl 0 rfl) ?_
                  have hq119 := hp.1
                  replace hp := hp.2
                  refine k_ycalli (S := Unit) (wc := (W_X4 cI q0 n1_0 n1_1 n1_2 n1_3 n1_4 n1_5 n1_6 n1_7 n1_8 n1_9 n1_10 n1_11 n1_12 n1_13 xr_30 xt_30 gn_30 gu_30 gb_30 ga_30 lc_30 lk_30 ln_30 lt_30 ll_30 lr_30 tw_30 tn_30 tt_30)) (wr := ([] : va_W)) (w1 := fun u => (W_X4 cI q0 n1_0 n1_1 n1_2 n1_3 n1_4 n1_5 n1_6 n1_7 n1_8 n1_9 n1_10 n1_11 n1_12 n1_13 xr_30 xt_30 gn_30 gu_30 gb_30 ga_30 lc_30 lk_30 ln_30 lt_30 ll_30 lr_30 tw_30 tn_30 tt_30)) (fun u => (W_X4 cI q0 n1_0 n1_1 n1_2 n1_3 n1_4 n1_5 n1_6 n1_7 n1_8 n1_9 n1_10 n1_11 n1_12 n1_13 xr_30 xt_30 gn_30 gu_30 gb_30 ga_30 lc_30 lk_30 ln_30 lt_30 ll_30 lr_30 tw_30 tn_30 tt_30)) hP (hK.sub [0] rfl) hD hN hXB hS hA [0, 1, 2, 3, 4, 5, 6, 7, 8, 9, 10, 11, 12, 13, 14] [] rfl rfl (by decide) (by decide) (by decide) [0, 1, 2, 3, 4, 5, 6, 7, 8, 9, 10, 11, 12, 13, 14] (by decide) (fun _ => rfl) (fun hg => vx_runSW (As := [.ref q0, .int (((f_L_cell L xs v30_3) / 8) - ((f_L_cell L xs v30_3) / 8) / 14 * 14), .int y11_7]) (rest := []) ⟨hx, hb, hml, hown, hts⟩ (c_L_needs l D cI q0 n1_0 n1_1 n1_2 n1_3 n1_4 n1_5 n1_6 n1_7 n1_8 n1_9 n1_10 n1_11 n1_12 n1_13 xr_30 xt_30 gn_30 gu_30 gb_30 ga_30 lc_30 lk_30 ln_30 lt_30 ll_30 lr_30 tw_30 tn_30 tt_30 _ (((f_L_cell L xs v30_3) / 8) - ((f_L_cell L xs v30_3) / 8) / 14 * 14) y11_7 hq119 hst) (vx_cwSW 3 hts gL_law_L_needs rfl rfl rfl (by decide +kernel) ⟨Nat.le_of_ble_eq_true rfl, Nat.le_of_ble_eq_true rfl⟩) ⟨PX.blind, fun U hU hW => ⟨rfl, hg U hU hW⟩⟩ rfl rfl hl.1 rfl (lv_room ((by exact Nat.le_of_ble_eq_true rfl))) dL_law_172 ⟨(by show kc30 + 2 ≤ 918419; omega), (by show ks30 + 12 ≤ 6345925; omega)⟩) (fun r119 u H locs hw hP hD hS => ?_)
                  subst hw
                  refine lv_topi (fun y120_8 hy120 => ?_)
                  rw [← hy120] at he
                  try dsimp only at he
                  replace hp := hp y120_8 hy120.symm
                  refine lv_istore (lv' := [(8, .int y120_8), (7, .int y11_7), (6, .int (((f_L_cell L xs v30_3) / 8) - ((f_L_cell L xs v30_3) / 8) / 14 * 14)), (5, .int ((f_L_cell L xs v30_3) / 8)), (4, .int (f_L_cell L xs v30_3)), (3, .int v30_3), (2, .int v30_2), (1, .ref q0), (0, .ref b0)]) hx hb dL_law_175 hl (by decide) rfl (fun ls hl => ?_)
                  refine lv_aload_n hx hb dL_law_177 rfl (lv_at hl 7 rfl) ?_
                  refine lv_iload hx hb dL_law_178 (lv_at hl 2 rfl) ?_
                  refine lv_iload hx hb dL_law_180 (lv_at hl 1 rfl) ?_
                  have hq121 := hp.1
                  replace hp := hp.2
                  refine k_ycalli (S := AA × AA × AA × AA) (wc := (W_X4 cI q0 n1_0 n1_1 n1_2 n1_3 n1_4 n1_5 n1_6 n1_7 n1_8 n1_9 n1_10 n1_11 n1_12 n1_13 xr_30 xt_30 gn_30 gu_30 gb_30 ga_30 lc_30 lk_30 ln_30 lt_30 ll_30 lr_30 tw_30 tn_30 tt_30)) (wr := ([] : va_W)) (w1 := fun u => (W_X4 cI q0 n1_0 n1_1 n1_2 n1_3 n1_4 n1_5 n1_6 n1_7 n1_8 n1_9 n1_10 n1_11 n1_12 n1_13 xr_30 xt_30 u.1 u.2.1 u.2.2.1 u.2.2.2 lc_30 lk_30 ln_30 lt_30 ll_30 lr_30 tw_30 tn_30 tt_30)) (fun u => (W_X4 cI q0 n1_0 n1_1 n1_2 n1_3 n1_4 n1_5 n1_6 n1_7 n1_8 n1_9 n1_10 n1_11 n1_12 n1_13 xr_30 xt_30 u.1 u.2.1 u.2.2.1 u.2.2.2 lc_30 lk_30 ln_30 lt_30 ll_30 lr_30 tw_30 tn_30 tt_30)) hP (hK.sub [0] rfl) hD hN hXB hS hA [0, 1, 2, 3, 4, 5, 6, 7, 8, 9, 10, 11, 12, 13, 14] [] rfl rfl (by decide) (by decide) (by decide) [0, 1, 2, 3, 4, 5, 6, 7, 8, 9, 10, 11, 12, 13, 14] (by decide) (fun _ => rfl) (fun hg => vx_runSW (As := [.ref q0, .int (((f_L_cell L xs v30_3) / 8) - ((f_L_cell L xs v30_3) / 8) / 14 * 14), .int y11_7]) (rest := []) ⟨hx, hb, hml, hown, hts⟩ (c_L_release l D cI q0 n1_0 n1_1 n1_2 n1_3 n1_4 n1_5 n1_6 n1_7 n1_8 n1_9 n1_10 n1_11 n1_12 n1_13 xr_30 xt_30 gn_30 gu_30 gb_30 ga_30 lc_30 lk_30 ln_30 lt_30 ll_30 lr_30 tw_30 tn_30 tt_30 _ (((f_L_cell L xs v30_3) / 8) - ((f_L_cell L xs v30_3) / 8) / 14 * 14) y11_7 hq121 hst) (vx_cwSW 3 hts gL_law_L_release rfl rfl rfl (by decide +kernel) ⟨Nat.le_of_ble_eq_true rfl, Nat.le_of_ble_eq_true rfl⟩) ⟨PX.blind, fun U hU hW => ⟨rfl, hg U hU hW⟩⟩ rfl rfl hl.1 rfl (lv_room ((by exact Nat.le_of_ble_eq_true rfl))) dL_law_182 ⟨(by show (kc30 + 2) + 2 ≤ 918419; omega), (by show (ks30 + 12) + 12 ≤ 6345925; omega)⟩) (fun r121 u H locs hw hP hD hS => ?_)
                  obtain ⟨u121_0, u121_1, u121_2, u121_3⟩ := u
                  rw [hw] at he
                  try dsimp only at he
                  replace hp := hp r121 u121_0 u121_1 u121_2 u121_3 hw
                  have hP : va_P D vwCl (W_X4 cI q0 n1_0 n1_1 n1_2 n1_3 n1_4 n1_5 n1_6 n1_7 n1_8 n1_9 n1_10 n1_11 n1_12 n1_13 xr_30 xt_30 u121_0 u121_1 u121_2 u121_3 lc_30 lk_30 ln_30 lt_30 ll_30 lr_30 tw_30 tn_30 tt_30) H := hP
                  have hD : va_D A (W_X4 cI q0 n1_0 n1_1 n1_2 n1_3 n1_4 n1_5 n1_6 n1_7 n1_8 n1_9 n1_10 n1_11 n1_12 n1_13 xr_30 xt_30 u121_0 u121_1 u121_2 u121_3 lc_30 lk_30 ln_30 lt_30 ll_30 lr_30 tw_30 tn_30 tt_30) := hD
                  refine lv_iload hx hb dL_law_185 (lv_at hl 0 rfl) ?_
                  obtain ⟨j122, hJ122⟩ : ∃ z : Int32, z = (if r121 = y120_8 then (if (f_L_needs u121_0 (((f_L_cell L xs v30_3) / 8) - ((f_L_cell L xs v30_3) / 8) / 14 * 14) y11_7) = 0 then (1 : Int32) else (0 : Int32)) else (0 : Int32)) := ⟨_, rfl⟩
                  rw [← hJ122] at he
                  try dsimp only at he
                  have hpJ122 := hp.1
                  replace hp := hp.2 _  hJ122.symm
                  have kont122 : (j122 = 0 ∨ j122 = 1) → ∀ (H : Heap) (locs : List Loc), va_P D vwCl (W_X4 cI q0 n1_0 n1_1 n1_2 n1_3 n1_4 n1_5 n1_6 n1_7 n1_8 n1_9 n1_10 n1_11 n1_12 n1_13 xr_30 xt_30 u121_0 u121_1 u121_2 u121_3 lc_30 lk_30 ln_30 lt_30 ll_30 lr_30 tw_30 tn_30 tt_30) H → va_D A (W_X4 cI q0 n1_0 n1_1 n1_2 n1_3 n1_4 n1_5 n1_6 n1_7 n1_8 n1_9 n1_10 n1_11 n1_12 n1_13 xr_30 xt_30 u121_0 u121_1 u121_2 u121_3 lc_30 lk_30 ln_30 lt_30 ll_30 lr_30 tw_30 tn_30 tt_30) → va_S A s.heap H locs → ∀ ls : Array Slot, lv_has ls 10 [(3, .int v30_3), (1, .ref q0), (0, .ref b0)] → W p l e room_1 s m #[Value.ref b0] below meth c H locs (kc30 + 6) (ks30 + 36) (lw_Z below #[Value.ref b0] s) (F0 m 206 ls [.int j122]) := by
                    intro hb122 H locs hP hD hS ls hl
                    refine lv_istore_n (lv' := [(2, .int j122), (3, .int v30_3), (1, .ref q0), (0, .ref b0)]) hx hb dL_law_206 rfl hl (by decide) rfl (fun ls hl => ?_)
                    refine lv_goto (tgt := 395) hx hb dL_law_207 (by decide) ?_
                    refine lv_iload_n hx hb dL_law_395 rfl (lv_at hl 0 rfl) ?_
                    obtain ⟨j126, hJ126⟩ : ∃ z : Int32, z = (if j122 = 0 then (0 : Int32) else (if 0 < (v30_3 - v30_3 / 5 * 5) then (if 0 < (v30_3 - v30_3 / 3 * 3) then (1 : Int32) else (if (f_L_causes xr_30 u121_0 u121_1 u121_2 u121_3 tn_30) = 0 then (0 : Int32) else (1 : Int32))) else (if (f_L_hangs u121_0 u121_2) = 0 then (0 : Int32) else (if 0 < (v30_3 - v30_3 / 3 * 3) then (1 : Int32) else (if (f_L_causes xr_30 u121_0 u121_1 u121_2 u121_3 tn_30) = 0 then (0 : Int32) else (1 : Int32)))))) := ⟨_, rfl⟩
                    rw [← hJ126] at he
                    try dsimp only at he
                    have hpJ126 := hp.1
                    replace hp := hp.2 _  hJ126.symm
                    have kont126 : (j126 = 0 ∨ j126 = 1) → ∀ (H : Heap) (locs : List Loc), va_P D vwCl (W_X4 cI q0 n1_0 n1_1 n1_2 n1_3 n1_4 n1_5 n1_6 n1_7 n1_8 n1_9 n1_10 n1_11 n1_12 n1_13 xr_30 xt_30 u121_0 u121_1 u121_2 u121_3 lc_30 lk_30 ln_30 lt_30 ll_30 lr_30 tw_30 tn_30 tt_30) H → va_D A (W_X4 cI q0 n1_0 n1_1 n1_2 n1_3 n1_4 n1_5 n1_6 n1_7 n1_8 n1_9 n1_10 n1_11 n1_12 n1_13 xr_30 xt_30 u121_0 u121_1 u121_2 u121_3 lc_30 lk_30 ln_30 lt_30 ll_30 lr_30 tw_30 tn_30 tt_30) → va_S A s.heap H locs → ∀ ls : Array Slot, lv_has ls 10 [(3, .int v30_3), (1, .ref q0), (0, .ref b0)] → W p l e room_1 s m #[Value.ref b0] below meth c H locs (kc30 + 15966) (ks30 + 95507) (lw_Z below #[Value.ref b0] s) (F0 m 430 ls [.int j126]) := by
                      intro hb126 H locs hP hD hS ls hl
                      refine lv_istore_n (lv' := [(2, .int j126), (3, .int v30_3), (1, .ref q0), (0, .ref b0)]) hx hb dL_law_430 rfl hl (by decide) rfl (fun ls hl => ?_)
                      refine lv_iinc (v := (v30_3 + 1)) (lv' := [(3, .int (v30_3 + 1)), (2, .int j126), (1, .ref q0), (0, .ref b0)]) hx hb dL_law_431 hl (k := 1) rfl rfl (by decide) rfl (fun ls hl => ?_)
                      refine lv_goto (tgt := 30) hx hb dL_law_434 (by decide) ?_
                      refine W.widen (k := kc30 + 15968) (n := ks30 + 95519) (by omega) (by omega) ?_
                      exact ih _ _ _ _ _ _ _ _ _ _ _ _ _ _ _ _ _ (kc30 + 15968) (ks30 + 95519) (by omega) (by omega) hp he _ _ hP hD hS _ (lv_sub hl [0, 1, 2, 3] rfl)
                    replace he := hJ126
                    replace hp := hpJ126
                    refine lv_if_eq (tgt := 429) hx hb dL_law_396 (by decide) (fun c127 => ?_) (fun c127 => ?_)
                    · replace hp := hp.1 c127
                      replace he := he.trans (if_pos c127)
                      refine lv_iconst (v := 0) hx hb dL_law_429 (by decide) ?_
                      subst he
                      refine W.widen (k := (kc30 + 15966)) (n := (ks30 + 95507)) (by omega) (by omega) ?_
                      exact kont126 (Or.inl rfl) _ _ hP hD hS _ (lv_sub hl [1, 2, 3] rfl)
                    · replace hp := hp.2 c127
                      replace he := he.trans (if_neg c127)
                      refine lv_iload_n hx hb dL_law_399 rfl (lv_at hl 1 rfl) ?_
                      refine lv_iconst (v := 5) hx hb dL_law_400 (by decide) ?_
                      refine lv_irem hx hb dL_law_401 (by decide) ?_
                      refine lv_if_gt (tgt := 412) hx hb dL_law_402 (by decide) (fun c128 => ?_) (fun c128 => ?_)
                      · replace hp := hp.1 c128
                        replace he := he.trans (if_pos c128)
                        refine lv_iload_n hx hb dL_law_412 rfl (lv_at hl 1 rfl) ?_
                        refine lv_iconst (v := 3) hx hb dL_law_413 (by decide) ?_
                        refine lv_irem hx hb dL_law_414 (by decide) ?_
                        refine lv_if_gt (tgt := 425) hx hb dL_law_415 (by decide) (fun c129 => ?_) (fun c129 => ?_)
                        · replace hp := hp.1 c129
                          replace he := he.trans (if_pos c129)
                          refine lv_iconst (v := 1) hx hb dL_law_425 (by decide) ?_
                          refine lv_goto (tgt := 430) hx hb dL_law_426 (by decide) ?_
                          subst he
                          refine W.widen (k := (kc30 + 15966)) (n := (ks30 + 95507)) (by omega) (by omega) ?_
                          exact kont126 (Or.inr rfl) _ _ hP hD hS _ (lv_sub hl [1, 2, 3] rfl)
                        · replace hp := hp.2 c129
                          replace he := he.trans (if_neg c129)
                          refine lv_aload_n hx hb dL_law_418 rfl (lv_at hl 2 rfl) ?_
                          have hq130 := hp.1
                          replace hp := hp.2
                          refine k_ycalli (S := Unit) (wc := (W_X4 cI q0 n1_0 n1_1 n1_2 n1_3 n1_4 n1_5 n1_6 n1_7 n1_8 n1_9 n1_10 n1_11 n1_12 n1_13 xr_30 xt_30 u121_0 u121_1 u121_2 u121_3 lc_30 lk_30 ln_30 lt_30 ll_30 lr_30 tw_30 tn_30 tt_30)) (wr := ([] : va_W)) (w1 := fun u => (W_X4 cI q0 n1_0 n1_1 n1_2 n1_3 n1_4 n1_5 n1_6 n1_7 n1_8 n1_9 n1_10 n1_11 n1_12 n1_13 xr_30 xt_30 u121_0 u121_1 u121_2 u121_3 lc_30 lk_30 ln_30 lt_30 ll_30 lr_30 tw_30 tn_30 tt_30)) (fun u => (W_X4 cI q0 n1_0 n1_1 n1_2 n1_3 n1_4 n1_5 n1_6 n1_7 n1_8 n1_9 n1_10 n1_11 n1_12 n1_13 xr_30 xt_30 u121_0 u121_1 u121_2 u121_3 lc_30 lk_30 ln_30 lt_30 ll_30 lr_30 tw_30 tn_30 tt_30)) hP (hK.sub [0] rfl) hD hN hXB hS hA [0, 1, 2, 3, 4, 5, 6, 7, 8, 9, 10, 11, 12, 13, 14] [] rfl rfl (by decide) (by decide) (by decide) [0, 1, 2, 3, 4, 5, 6, 7, 8, 9, 10, 11, 12, 13, 14] (by decide) (fun _ => rfl) (fun hg => va_runS (As := [.ref q0]) (rest := []) ⟨hx, hb, hml, hown, hts⟩ (c_L_causes l D cI q0 n1_0 n1_1 n1_2 n1_3 n1_4 n1_5 n1_6 n1_7 n1_8 n1_9 n1_10 n1_11 n1_12 n1_13 xr_30 xt_30 u121_0 u121_1 u121_2 u121_3 lc_30 lk_30 ln_30 lt_30 ll_30 lr_30 tw_30 tn_30 tt_30 _ hq130 hst) (va_cwS 1 hts gL_law_L_causes rfl rfl rfl (by decide +kernel) ⟨Nat.le_of_ble_eq_true rfl, Nat.le_of_ble_eq_true rfl⟩) ⟨PX.blind, fun U hU hW => ⟨rfl, hg U hU hW⟩⟩ rfl rfl hl.1 rfl (lv_room ((by exact Nat.le_of_ble_eq_true rfl))) dL_law_419 ⟨(by show (kc30 + 6) + 1095 ≤ 918419; omega), (by show (ks30 + 36) + 6281 ≤ 6345925; omega)⟩) (fun r130 u H locs hw hP hD hS => ?_)
                          obtain ⟨hw, hb130⟩ := hw
                          subst hw
                          refine lv_if_eq (tgt := 429) hx hb dL_law_422 (by decide) (fun c131 => ?_) (fun c131 => ?_)
                          · replace hp := hp.1 c131
                            replace he := he.trans (if_pos c131)
                            refine lv_iconst (v := 0) hx hb dL_law_429 (by decide) ?_
                            subst he
                            refine W.widen (k := (kc30 + 15966)) (n := (ks30 + 95507)) (by omega) (by omega) ?_
                            exact kont126 (Or.inl rfl) _ _ hP hD hS _ (lv_sub hl [1, 2, 3] rfl)
                          · replace hp := hp.2 c131
                            replace he := he.trans (if_neg c131)
                            refine lv_iconst (v := 1) hx hb dL_law_425 (by decide) ?_
                            refine lv_goto (tgt := 430) hx hb dL_law_426 (by decide) ?_
                            subst he
                            refine W.widen (k := (kc30 + 15966)) (n := (ks30 + 95507)) (by omega) (by omega) ?_
                            exact kont126 (Or.inr rfl) _ _ hP hD hS _ (lv_sub hl [1, 2, 3] rfl)
                      · replace hp := hp.2 c128
                        replace he := he.trans (if_neg c128)
                        refine lv_aload_n hx hb dL_law_405 rfl (lv_at hl 2 rfl) ?_
                        have hq132 := hp.1
                        replace hp := hp.2
                        refine k_ycalli (S := Unit) (wc := (W_X4 cI q0 n1_0 n1_1 n1_2 n1_3 n1_4 n1_5 n1_6 n1_7 n1_8 n1_9 n1_10 n1_11 n1_12 n1_13 xr_30 xt_30 u121_0 u121_1 u121_2 u121_3 lc_30 lk_30 ln_30 lt_30 ll_30 lr_30 tw_30 tn_30 tt_30)) (wr := ([] : va_W)) (w1 := fun u => (W_X4 cI q0 n1_0 n1_1 n1_2 n1_3 n1_4 n1_5 n1_6 n1_7 n1_8 n1_9 n1_10 n1_11 n1_12 n1_13 xr_30 xt_30 u121_0 u121_1 u121_2 u121_3 lc_30 lk_30 ln_30 lt_30 ll_30 lr_30 tw_30 tn_30 tt_30)) (fun u => (W_X4 cI q0 n1_0 n1_1 n1_2 n1_3 n1_4 n1_5 n1_6 n1_7 n1_8 n1_9 n1_10 n1_11 n1_12 n1_13 xr_30 xt_30 u121_0 u121_1 u121_2 u121_3 lc_30 lk_30 ln_30 lt_30 ll_30 lr_30 tw_30 tn_30 tt_30)) hP (hK.sub [0] rfl) hD hN hXB hS hA [0, 1, 2, 3, 4, 5, 6, 7, 8, 9, 10, 11, 12, 13, 14] [] rfl rfl (by decide) (by decide) (by decide) [0, 1, 2, 3, 4, 5, 6, 7, 8, 9, 10, 11, 12, 13, 14] (by decide) (fun _ => rfl) (fun hg => va_runS (As := [.ref q0]) (rest := []) ⟨hx, hb, hml, hown, hts⟩ (c_L_hangs l D cI q0 n1_0 n1_1 n1_2 n1_3 n1_4 n1_5 n1_6 n1_7 n1_8 n1_9 n1_10 n1_11 n1_12 n1_13 xr_30 xt_30 u121_0 u121_1 u121_2 u121_3 lc_30 lk_30 ln_30 lt_30 ll_30 lr_30 tw_30 tn_30 tt_30 _ hq132 hst) (va_cwS 1 hts gL_law_L_hangs rfl rfl rfl (by decide +kernel) ⟨Nat.le_of_ble_eq_true rfl, Nat.le_of_ble_eq_true rfl⟩) ⟨PX.blind, fun U hU hW => ⟨rfl, hg U hU hW⟩⟩ rfl rfl hl.1 rfl (lv_room ((by exact Nat.le_of_ble_eq_true rfl))) dL_law_406 ⟨(by show (kc30 + 6) + 14865 ≤ 918419; omega), (by show (ks30 + 36) + 89190 ≤ 6345925; omega)⟩) (fun r132 u H locs hw hP hD hS => ?_)
                        obtain ⟨hw, hb132⟩ := hw
                        subst hw
                        refine lv_if_eq (tgt := 429) hx hb dL_law_409 (by decide) (fun c133 => ?_) (fun c133 => ?_)
                        · replace hp := hp.1 c133
                          replace he := he.trans (if_pos c133)
                          refine lv_iconst (v := 0) hx hb dL_law_429 (by decide) ?_
                          subst he
                          refine W.widen (k := (kc30 + 15966)) (n := (ks30 + 95507)) (by omega) (by omega) ?_
                          exact kont126 (Or.inl rfl) _ _ hP hD hS _ (lv_sub hl [1, 2, 3] rfl)
                        · replace hp := hp.2 c133
                          replace he := he.trans (if_neg c133)
                          refine lv_iload_n hx hb dL_law_412 rfl (lv_at hl 1 rfl) ?_
                          refine lv_iconst (v := 3) hx hb dL_law_413 (by decide) ?_
                          refine lv_irem hx hb dL_law_414 (by decide) ?_
                          refine lv_if_gt (tgt := 425) hx hb dL_law_415 (by decide) (fun c134 => ?_) (fun c134 => ?_)
                          · replace hp := hp.1 c134
                            replace he := he.trans (if_pos c134)
                            refine lv_iconst (v := 1) hx hb dL_law_425 (by decide) ?_
                            refine lv_goto (tgt := 430) hx hb dL_law_426 (by decide) ?_
                            subst he
                            refine W.widen (k := (kc30 + 15966)) (n := (ks30 + 95507)) (by omega) (by omega) ?_
                            exact kont126 (Or.inr rfl) _ _ hP hD hS _ (lv_sub hl [1, 2, 3] rfl)
                          · replace hp := hp.2 c134
                            replace he := he.trans (if_neg c134)
                            refine lv_aload_n hx hb dL_law_418 rfl (lv_at hl 2 rfl) ?_
                            have hq135 := hp.1
                            replace hp := hp.2
                            refine k_ycalli (S := Unit) (wc := (W_X4 cI q0 n1_0 n1_1 n1_2 n1_3 n1_4 n1_5 n1_6 n1_7 n1_8 n1_9 n1_10 n1_11 n1_12 n1_13 xr_30 xt_30 u121_0 u121_1 u121_2 u121_3 lc_30 lk_30 ln_30 lt_30 ll_30 lr_30 tw_30 tn_30 tt_30)) (wr := ([] : va_W)) (w1 := fun u => (W_X4 cI q0 n1_0 n1_1 n1_2 n1_3 n1_4 n1_5 n1_6 n1_7 n1_8 n1_9 n1_10 n1_11 n1_12 n1_13 xr_30 xt_30 u121_0 u121_1 u121_2 u121_3 lc_30 lk_30 ln_30 lt_30 ll_30 lr_30 tw_30 tn_30 tt_30)) (fun u => (W_X4 cI q0 n1_0 n1_1 n1_2 n1_3 n1_4 n1_5 n1_6 n1_7 n1_8 n1_9 n1_10 n1_11 n1_12 n1_13 xr_30 xt_30 u121_0 u121_1 u121_2 u121_3 lc_30 lk_30 ln_30 lt_30 ll_30 lr_30 tw_30 tn_30 tt_30)) hP (hK.sub [0] rfl) hD hN hXB hS hA [0, 1, 2, 3, 4, 5, 6, 7, 8, 9, 10, 11, 12, 13, 14] [] rfl rfl (by decide) (by decide) (by decide) [0, 1, 2, 3, 4, 5, 6, 7, 8, 9, 10, 11, 12, 13, 14] (by decide) (fun _ => rfl) (fun hg => va_runS (As := [.ref q0]) (rest := []) ⟨hx, hb, hml, hown, hts⟩ (c_L_causes l D cI q0 n1_0 n1_1 n1_2 n1_3 n1_4 n1_5 n1_6 n1_7 n1_8 n1_9 n1_10 n1_11 n1_12 n1_13 xr_30 xt_30 u121_0 u121_1 u121_2 u121_3 lc_30 lk_30 ln_30 lt_30 ll_30 lr_30 tw_30 tn_30 tt_30 _ hq135 hst) (va_cwS 1 hts gL_law_L_causes rfl rfl rfl (by decide +kernel) ⟨Nat.le_of_ble_eq_true rfl, Nat.le_of_ble_eq_true rfl⟩) ⟨PX.blind, fun U hU hW => ⟨rfl, hg U hU hW⟩⟩ rfl rfl hl.1 rfl (lv_room ((by exact Nat.le_of_ble_eq_true rfl))) dL_law_419 ⟨(by show (kc30 + 14871) + 1095 ≤ 918419; omega), (by show (ks30 + 89226) + 6281 ≤ 6345925; omega)⟩) (fun r135 u H locs hw hP hD hS => ?_)
                            obtain ⟨hw, hb135⟩ := hw
                            subst hw
                            refine lv_if_eq (tgt := 429) hx hb dL_law_422 (by decide) (fun c136 => ?_) (fun c136 => ?_)
                            · replace hp := hp.1 c136
                              replace he := he.trans (if_pos c136)
                              refine lv_iconst (v := 0) hx hb dL_law_429 (by decide) ?_
                              subst he
                              exact kont126 (Or.inl rfl) _ _ hP hD hS _ (lv_sub hl [1, 2, 3] rfl)
                            · replace hp := hp.2 c136
                              replace he := he.trans (if_neg c136)
                              refine lv_iconst (v := 1) hx hb dL_law_425 (by decide) ?_
                              refine lv_goto (tgt := 430) hx hb dL_law_426 (by decide) ?_
                              subst he
                              exact kont126 (Or.inr rfl) _ _ hP hD hS _ (lv_sub hl [1, 2, 3] rfl)
                  replace he := hJ122
                  replace hp := hpJ122
                  refine lv_icmp_ne (tgt := 205) hx hb dL_law_187 (by decide) (fun c123 => ?_) (fun c123 => ?_)
                  · replace hp := hp.2 c123
                    replace he := he.trans (if_neg c123)
                    refine lv_iconst (v := 0) hx hb dL_law_205 (by decide) ?_
                    subst he
                    refine W.widen (k := (kc30 + 6)) (n := (ks30 + 36)) (by omega) (by omega) ?_
                    exact kont122 (Or.inl rfl) _ _ hP hD hS _ (lv_sub hl [5, 7, 8] rfl)
                  · replace hp := hp.1 c123
                    replace he := he.trans (if_pos c123)
                    refine lv_aload_n hx hb dL_law_190 rfl (lv_at hl 7 rfl) ?_
                    refine lv_iload hx hb dL_law_191 (lv_at hl 2 rfl) ?_
                    refine lv_iload hx hb dL_law_193 (lv_at hl 1 rfl) ?_
                    have hq124 := hp.1
                    replace hp := hp.2
                    refine k_ycalli (S := Unit) (wc := (W_X4 cI q0 n1_0 n1_1 n1_2 n1_3 n1_4 n1_5 n1_6 n1_7 n1_8 n1_9 n1_10 n1_11 n1_12 n1_13 xr_30 xt_30 u121_0 u121_1 u121_2 u121_3 lc_30 lk_30 ln_30 lt_30 ll_30 lr_30 tw_30 tn_30 tt_30)) (wr := ([] : va_W)) (w1 := fun u => (W_X4 cI q0 n1_0 n1_1 n1_2 n1_3 n1_4 n1_5 n1_6 n1_7 n1_8 n1_9 n1_10 n1_11 n1_12 n1_13 xr_30 xt_30 u121_0 u121_1 u121_2 u121_3 lc_30 lk_30 ln_30 lt_30 ll_30 lr_30 tw_30 tn_30 tt_30)) (fun u => (W_X4 cI q0 n1_0 n1_1 n1_2 n1_3 n1_4 n1_5 n1_6 n1_7 n1_8 n1_9 n1_10 n1_11 n1_12 n1_13 xr_30 xt_30 u121_0 u121_1 u121_2 u121_3 lc_30 lk_30 ln_30 lt_30 ll_30 lr_30 tw_30 tn_30 tt_30)) hP (hK.sub [0] rfl) hD hN hXB hS hA [0, 1, 2, 3, 4, 5, 6, 7, 8, 9, 10, 11, 12, 13, 14] [] rfl rfl (by decide) (by decide) (by decide) [0, 1, 2, 3, 4, 5, 6, 7, 8, 9, 10, 11, 12, 13, 14] (by decide) (fun _ => rfl) (fun hg => vx_runSW (As := [.ref q0, .int (((f_L_cell L xs v30_3) / 8) - ((f_L_cell L xs v30_3) / 8) / 14 * 14), .int y11_7]) (rest := []) ⟨hx, hb, hml, hown, hts⟩ (c_L_needs l D cI q0 n1_0 n1_1 n1_2 n1_3 n1_4 n1_5 n1_6 n1_7 n1_8 n1_9 n1_10 n1_11 n1_12 n1_13 xr_30 xt_30 u121_0 u121_1 u121_2 u121_3 lc_30 lk_30 ln_30 lt_30 ll_30 lr_30 tw_30 tn_30 tt_30 _ (((f_L_cell L xs v30_3) / 8) - ((f_L_cell L xs v30_3) / 8) / 14 * 14) y11_7 hq124 hst) (vx_cwSW 3 hts gL_law_L_needs rfl rfl rfl (by decide +kernel) ⟨Nat.le_of_ble_eq_true rfl, Nat.le_of_ble_eq_true rfl⟩) ⟨PX.blind, fun U hU hW => ⟨rfl, hg U hU hW⟩⟩ rfl rfl hl.1 rfl (lv_room ((by exact Nat.le_of_ble_eq_true rfl))) dL_law_195 ⟨(by show (kc30 + 4) + 2 ≤ 918419; omega), (by show (ks30 + 24) + 12 ≤ 6345925; omega)⟩) (fun r124 u H locs hw hP hD hS => ?_)
                    subst hw
                    refine lv_if_ne (tgt := 205) hx hb dL_law_198 (by decide) (fun c125 => ?_) (fun c125 => ?_)
                    · replace hp := hp.2 c125
                      replace he := he.trans (if_neg c125)
                      refine lv_iconst (v := 0) hx hb dL_law_205 (by decide) ?_
                      subst he
                      exact kont122 (Or.inl rfl) _ _ hP hD hS _ (lv_sub hl [5, 7, 8] rfl)
                    · replace hp := hp.1 c125
                      replace he := he.trans (if_pos c125)
                      refine lv_iconst (v := 1) hx hb dL_law_201 (by decide) ?_
                      refine lv_goto (tgt := 206) hx hb dL_law_202 (by decide) ?_
                      subst he
                      exact kont122 (Or.inr rfl) _ _ hP hD hS _ (lv_sub hl [5, 7, 8] rfl)
              · replace hp := hp.2 c36
                replace he := he.trans (if_neg c36)
                refine lv_iload hx hb dL_law_86 (lv_at hl 1 rfl) ?_
                refine lv_iload hx hb dL_law_88 (lv_at hl 0 rfl) ?_
                obtain ⟨j137, hJ137⟩ : ∃ z : Int32, z = (if (((f_L_cell L xs v30_3) / 8) - ((f_L_cell L xs v30_3) / 8) / 14 * 14) = y11_7 then (0 : Int32) else (if (f_L_depends gb_30 y11_7 (((f_L_cell L xs v30_3) / 8) - ((f_L_cell L xs v30_3) / 8) / 14 * 14)) = 0 then (1 : Int32) else (0 : Int32))) := ⟨_, rfl⟩
                rw [← hJ137] at he
                try dsimp only at he
                have hpJ137 := hp.1
                replace hp := hp.2 _  hJ137.symm
                have kont137 : (j137 = 0 ∨ j137 = 1) → ∀ (H : Heap) (locs : List Loc), va_P D vwCl (W_X4 cI q0 n1_0 n1_1 n1_2 n1_3 n1_4 n1_5 n1_6 n1_7 n1_8 n1_9 n1_10 n1_11 n1_12 n1_13 xr_30 xt_30 gn_30 gu_30 gb_30 ga_30 lc_30 lk_30 ln_30 lt_30 ll_30 lr_30 tw_30 tn_30 tt_30) H → va_D A (W_X4 cI q0 n1_0 n1_1 n1_2 n1_3 n1_4 n1_5 n1_6 n1_7 n1_8 n1_9 n1_10 n1_11 n1_12 n1_13 xr_30 xt_30 gn_30 gu_30 gb_30 ga_30 lc_30 lk_30 ln_30 lt_30 ll_30 lr_30 tw_30 tn_30 tt_30) → va_S A s.heap H locs → ∀ ls : Array Slot, lv_has ls 10 [(7, .int y11_7), (6, .int (((f_L_cell L xs v30_3) / 8) - ((f_L_cell L xs v30_3) / 8) / 14 * 14)), (3, .int v30_3), (1, .ref q0), (0, .ref b0)] → W p l e room_1 s m #[Value.ref b0] below meth c H locs (kc30 + 2) (ks30 + 12) (lw_Z below #[Value.ref b0] s) (F0 m 109 ls [.int j137]) := by
                  intro hb137 H locs hP hD hS ls hl
                  refine lv_istore (lv' := [(8, .int j137), (7, .int y11_7), (6, .int (((f_L_cell L xs v30_3) / 8) - ((f_L_cell L xs v30_3) / 8) / 14 * 14)), (3, .int v30_3), (1, .ref q0), (0, .ref b0)]) hx hb dL_law_109 hl (by decide) rfl (fun ls hl => ?_)
                  refine lv_aload_n hx hb dL_law_111 rfl (lv_at hl 4 rfl) ?_
                  refine lv_iload hx hb dL_law_112 (lv_at hl 2 rfl) ?_
                  refine lv_iload hx hb dL_law_114 (lv_at hl 1 rfl) ?_
                  have hq141 := hp.1
                  replace hp := hp.2
                  refine k_ycalli (S := AA × AA × AA × AA) (wc := (W_X4 cI q0 n1_0 n1_1 n1_2 n1_3 n1_4 n1_5 n1_6 n1_7 n1_8 n1_9 n1_10 n1_11 n1_12 n1_13 xr_30 xt_30 gn_30 gu_30 gb_30 ga_30 lc_30 lk_30 ln_30 lt_30 ll_30 lr_30 tw_30 tn_30 tt_30)) (wr := ([] : va_W)) (w1 := fun u => (W_X4 cI q0 n1_0 n1_1 n1_2 n1_3 n1_4 n1_5 n1_6 n1_7 n1_8 n1_9 n1_10 n1_11 n1_12 n1_13 xr_30 xt_30 u.1 u.2.1 u.2.2.1 u.2.2.2 lc_30 lk_30 ln_30 lt_30 ll_30 lr_30 tw_30 tn_30 tt_30)) (fun u => (W_X4 cI q0 n1_0 n1_1 n1_2 n1_3 n1_4 n1_5 n1_6 n1_7 n1_8 n1_9 n1_10 n1_11 n1_12 n1_13 xr_30 xt_30 u.1 u.2.1 u.2.2.1 u.2.2.2 lc_30 lk_30 ln_30 lt_30 ll_30 lr_30 tw_30 tn_30 tt_30)) hP (hK.sub [0] rfl) hD hN hXB hS hA [0, 1, 2, 3, 4, 5, 6, 7, 8, 9, 10, 11, 12, 13, 14] [] rfl rfl (by decide) (by decide) (by decide) [0, 1, 2, 3, 4, 5, 6, 7, 8, 9, 10, 11, 12, 13, 14] (by decide) (fun _ => rfl) (fun hg => vx_runSW (As := [.ref q0, .int (((f_L_cell L xs v30_3) / 8) - ((f_L_cell L xs v30_3) / 8) / 14 * 14), .int y11_7]) (rest := []) ⟨hx, hb, hml, hown, hts⟩ (c_L_need l D cI q0 n1_0 n1_1 n1_2 n1_3 n1_4 n1_5 n1_6 n1_7 n1_8 n1_9 n1_10 n1_11 n1_12 n1_13 xr_30 xt_30 gn_30 gu_30 gb_30 ga_30 lc_30 lk_30 ln_30 lt_30 ll_30 lr_30 tw_30 tn_30 tt_30 _ (((f_L_cell L xs v30_3) / 8) - ((f_L_cell L xs v30_3) / 8) / 14 * 14) y11_7 hq141 hst) (vx_cwSW 3 hts gL_law_L_need rfl rfl rfl (by decide +kernel) ⟨Nat.le_of_ble_eq_true rfl, Nat.le_of_ble_eq_true rfl⟩) ⟨PX.blind, fun U hU hW => ⟨rfl, hg U hU hW⟩⟩ rfl rfl hl.1 rfl (lv_room ((by exact Nat.le_of_ble_eq_true rfl))) dL_law_116 ⟨(by show (kc30 + 2) + 3 ≤ 918419; omega), (by show (ks30 + 12) + 18 ≤ 6345925; omega)⟩) (fun r141 u H locs hw hP hD hS => ?_)
                  obtain ⟨u141_0, u141_1, u141_2, u141_3⟩ := u
                  rw [hw] at he
                  try dsimp only at he
                  replace hp := hp r141 u141_0 u141_1 u141_2 u141_3 hw
                  have hP : va_P D vwCl (W_X4 cI q0 n1_0 n1_1 n1_2 n1_3 n1_4 n1_5 n1_6 n1_7 n1_8 n1_9 n1_10 n1_11 n1_12 n1_13 xr_30 xt_30 u141_0 u141_1 u141_2 u141_3 lc_30 lk_30 ln_30 lt_30 ll_30 lr_30 tw_30 tn_30 tt_30) H := hP
                  have hD : va_D A (W_X4 cI q0 n1_0 n1_1 n1_2 n1_3 n1_4 n1_5 n1_6 n1_7 n1_8 n1_9 n1_10 n1_11 n1_12 n1_13 xr_30 xt_30 u141_0 u141_1 u141_2 u141_3 lc_30 lk_30 ln_30 lt_30 ll_30 lr_30 tw_30 tn_30 tt_30) := hD
                  obtain ⟨j142, hJ142⟩ : ∃ z : Int32, z = (if r141 < 0 then (0 : Int32) else (1 : Int32)) := ⟨_, rfl⟩
                  rw [← hJ142] at he
                  try dsimp only at he
                  have hpJ142 := hp.1
                  replace hp := hp.2 _  hJ142.symm
                  have kont142 : (j142 = 0 ∨ j142 = 1) → ∀ (H : Heap) (locs : List Loc), va_P D vwCl (W_X4 cI q0 n1_0 n1_1 n1_2 n1_3 n1_4 n1_5 n1_6 n1_7 n1_8 n1_9 n1_10 n1_11 n1_12 n1_13 xr_30 xt_30 u141_0 u141_1 u141_2 u141_3 lc_30 lk_30 ln_30 lt_30 ll_30 lr_30 tw_30 tn_30 tt_30) H → va_D A (W_X4 cI q0 n1_0 n1_1 n1_2 n1_3 n1_4 n1_5 n1_6 n1_7 n1_8 n1_9 n1_10 n1_11 n1_12 n1_13 xr_30 xt_30 u141_0 u141_1 u141_2 u141_3 lc_30 lk_30 ln_30 lt_30 ll_30 lr_30 tw_30 tn_30 tt_30) → va_S A s.heap H locs → ∀ ls : Array Slot, lv_has ls 10 [(8, .int j137), (7, .int y11_7), (6, .int (((f_L_cell L xs v30_3) / 8) - ((f_L_cell L xs v30_3) / 8) / 14 * 14)), (3, .int v30_3), (1, .ref q0), (0, .ref b0)] → W p l e room_1 s m #[Value.ref b0] below meth c H locs (kc30 + 5) (ks30 + 30) (lw_Z below #[Value.ref b0] s) (F0 m 127 ls [.int j142]) := by
                    intro hb142 H locs hP hD hS ls hl
                    refine lv_iload hx hb dL_law_127 (lv_at hl 0 rfl) ?_
                    obtain ⟨j144, hJ144⟩ : ∃ z : Int32, z = (if j142 = j137 then (if (f_L_needs u141_0 (((f_L_cell L xs v30_3) / 8) - ((f_L_cell L xs v30_3) / 8) / 14 * 14) y11_7) = 1 then (1 : Int32) else (if j137 = 0 then (1 : Int32) else (0 : Int32))) else (0 : Int32)) := ⟨_, rfl⟩
                    rw [← hJ144] at he
                    try dsimp only at he
                    have hpJ144 := hp.1
                    replace hp := hp.2 _  hJ144.symm
                    have kont144 : (j144 = 0 ∨ j144 = 1) → ∀ (H : Heap) (locs : List Loc), va_P D vwCl (W_X4 cI q0 n1_0 n1_1 n1_2 n1_3 n1_4 n1_5 n1_6 n1_7 n1_8 n1_9 n1_10 n1_11 n1_12 n1_13 xr_30 xt_30 u141_0 u141_1 u141_2 u141_3 lc_30 lk_30 ln_30 lt_30 ll_30 lr_30 tw_30 tn_30 tt_30) H → va_D A (W_X4 cI q0 n1_0 n1_1 n1_2 n1_3 n1_4 n1_5 n1_6 n1_7 n1_8 n1_9 n1_10 n1_11 n1_12 n1_13 xr_30 xt_30 u141_0 u141_1 u141_2 u141_3 lc_30 lk_30 ln_30 lt_30 ll_30 lr_30 tw_30 tn_30 tt_30) → va_S A s.heap H locs → ∀ ls : Array Slot, lv_has ls 10 [(3, .int v30_3), (1, .ref q0), (0, .ref b0)] → W p l e room_1 s m #[Value.ref b0] below meth c H locs (kc30 + 7) (ks30 + 42) (lw_Z below #[Value.ref b0] s) (F0 m 154 ls [.int j144]) := by
                      intro hb144 H locs hP hD hS ls hl
                      refine lv_istore_n (lv' := [(2, .int j144), (3, .int v30_3), (1, .ref q0), (0, .ref b0)]) hx hb dL_law_154 rfl hl (by decide) rfl (fun ls hl => ?_)
                      refine lv_goto (tgt := 395) hx hb dL_law_155 (by decide) ?_
                      refine lv_iload_n hx hb dL_law_395 rfl (lv_at hl 0 rfl) ?_
                      obtain ⟨j149, hJ149⟩ : ∃ z : Int32, z = (if j144 = 0 then (0 : Int32) else (if 0 < (v30_3 - v30_3 / 5 * 5) then (if 0 < (v30_3 - v30_3 / 3 * 3) then (1 : Int32) else (if (f_L_causes xr_30 u141_0 u141_1 u141_2 u141_3 tn_30) = 0 then (0 : Int32) else (1 : Int32))) else (if (f_L_hangs u141_0 u141_2) = 0 then (0 : Int32) else (if 0 < (v30_3 - v30_3 / 3 * 3) then (1 : Int32) else (if (f_L_causes xr_30 u141_0 u141_1 u141_2 u141_3 tn_30) = 0 then (0 : Int32) else (1 : Int32)))))) := ⟨_, rfl⟩
                      rw [← hJ149] at he
                      try dsimp only at he
                      have hpJ149 := hp.1
                      replace hp := hp.2 _  hJ149.symm
                      have kont149 : (j149 = 0 ∨ j149 = 1) → ∀ (H : Heap) (locs : List Loc), va_P D vwCl (W_X4 cI q0 n1_0 n1_1 n1_2 n1_3 n1_4 n1_5 n1_6 n1_7 n1_8 n1_9 n1_10 n1_11 n1_12 n1_13 xr_30 xt_30 u141_0 u141_1 u141_2 u141_3 lc_30 lk_30 ln_30 lt_30 ll_30 lr_30 tw_30 tn_30 tt_30) H → va_D A (W_X4 cI q0 n1_0 n1_1 n1_2 n1_3 n1_4 n1_5 n1_6 n1_7 n1_8 n1_9 n1_10 n1_11 n1_12 n1_13 xr_30 xt_30 u141_0 u141_1 u141_2 u141_3 lc_30 lk_30 ln_30 lt_30 ll_30 lr_30 tw_30 tn_30 tt_30) → va_S A s.heap H locs → ∀ ls : Array Slot, lv_has ls 10 [(3, .int v30_3), (1, .ref q0), (0, .ref b0)] → W p l e room_1 s m #[Value.ref b0] below meth c H locs (kc30 + 15967) (ks30 + 95513) (lw_Z below #[Value.ref b0] s) (F0 m 430 ls [.int j149]) := by
                        intro hb149 H locs hP hD hS ls hl
                        refine lv_istore_n (lv' := [(2, .int j149), (3, .int v30_3), (1, .ref q0), (0, .ref b0)]) hx hb dL_law_430 rfl hl (by decide) rfl (fun ls hl => ?_)
                        refine lv_iinc (v := (v30_3 + 1)) (lv' := [(3, .int (v30_3 + 1)), (2, .int j149), (1, .ref q0), (0, .ref b0)]) hx hb dL_law_431 hl (k := 1) rfl rfl (by decide) rfl (fun ls hl => ?_)
                        refine lv_goto (tgt := 30) hx hb dL_law_434 (by decide) ?_
                        refine W.widen (k := kc30 + 15968) (n := ks30 + 95519) (by omega) (by omega) ?_
                        exact ih _ _ _ _ _ _ _ _ _ _ _ _ _ _ _ _ _ (kc30 + 15968) (ks30 + 95519) (by omega) (by omega) hp he _ _ hP hD hS _ (lv_sub hl [0, 1, 2, 3] rfl)
                      replace he := hJ149
                      replace hp := hpJ149
                      refine lv_if_eq (tgt := 429) hx hb dL_law_396 (by decide) (fun c150 => ?_) (fun c150 => ?_)
                      · replace hp := hp.1 c150
                        replace he := he.trans (if_pos c150)
                        refine lv_iconst (v := 0) hx hb dL_law_429 (by decide) ?_
                        subst he
                        refine W.widen (k := (kc30 + 15967)) (n := (ks30 + 95513)) (by omega) (by omega) ?_
                        exact kont149 (Or.inl rfl) _ _ hP hD hS _ (lv_sub hl [1, 2, 3] rfl)
                      · replace hp := hp.2 c150
                        replace he := he.trans (if_neg c150)
                        refine lv_iload_n hx hb dL_law_399 rfl (lv_at hl 1 rfl) ?_
                        refine lv_iconst (v := 5) hx hb dL_law_400 (by decide) ?_
                        refine lv_irem hx hb dL_law_401 (by decide) ?_
                        refine lv_if_gt (tgt := 412) hx hb dL_law_402 (by decide) (fun c151 => ?_) (fun c151 => ?_)
                        · replace hp := hp.1 c151
                          replace he := he.trans (if_pos c151)
                          refine lv_iload_n hx hb dL_law_412 rfl (lv_at hl 1 rfl) ?_
                          refine lv_iconst (v := 3) hx hb dL_law_413 (by decide) ?_
                          refine lv_irem hx hb dL_law_414 (by decide) ?_
                          refine lv_if_gt (tgt := 425) hx hb dL_law_415 (by decide) (fun c152 => ?_) (fun c152 => ?_)
                          · replace hp := hp.1 c152
                            replace he := he.trans (if_pos c152)
                            refine lv_iconst (v := 1) hx hb dL_law_425 (by decide) ?_
                            refine lv_goto (tgt := 430) hx hb dL_law_426 (by decide) ?_
                            subst he
                            refine W.widen (k := (kc30 + 15967)) (n := (ks30 + 95513)) (by omega) (by omega) ?_
                            exact kont149 (Or.inr rfl) _ _ hP hD hS _ (lv_sub hl [1, 2, 3] rfl)
                          · replace hp := hp.2 c152
                            replace he := he.trans (if_neg c152)
                            refine lv_aload_n hx hb dL_law_418 rfl (lv_at hl 2 rfl) ?_
                            have hq153 := hp.1
                            replace hp := hp.2
                            refine k_ycalli (S := Unit) (wc := (W_X4 cI q0 n1_0 n1_1 n1_2 n1_3 n1_4 n1_5 n1_6 n1_7 n1_8 n1_9 n1_10 n1_11 n1_12 n1_13 xr_30 xt_30 u141_0 u141_1 u141_2 u141_3 lc_30 lk_30 ln_30 lt_30 ll_30 lr_30 tw_30 tn_30 tt_30)) (wr := ([] : va_W)) (w1 := fun u => (W_X4 cI q0 n1_0 n1_1 n1_2 n1_3 n1_4 n1_5 n1_6 n1_7 n1_8 n1_9 n1_10 n1_11 n1_12 n1_13 xr_30 xt_30 u141_0 u141_1 u141_2 u141_3 lc_30 lk_30 ln_30 lt_30 ll_30 lr_30 tw_30 tn_30 tt_30)) (fun u => (W_X4 cI q0 n1_0 n1_1 n1_2 n1_3 n1_4 n1_5 n1_6 n1_7 n1_8 n1_9 n1_10 n1_11 n1_12 n1_13 xr_30 xt_30 u141_0 u141_1 u141_2 u141_3 lc_30 lk_30 ln_30 lt_30 ll_30 lr_30 tw_30 tn_30 tt_30)) hP (hK.sub [0] rfl) hD hN hXB hS hA [0, 1, 2, 3, 4, 5, 6, 7, 8, 9, 10, 11, 12, 13, 14] [] rfl rfl (by decide) (by decide) (by decide) [0, 1, 2, 3, 4, 5, 6, 7, 8, 9, 10, 11, 12, 13, 14] (by decide) (fun _ => rfl) (fun hg => va_runS (As := [.ref q0]) (rest := []) ⟨hx, hb, hml, hown, hts⟩ (c_L_causes l D cI q0 n1_0 n1_1 n1_2 n1_3 n1_4 n1_5 n1_6 n1_7 n1_8 n1_9 n1_10 n1_11 n1_12 n1_13 xr_30 xt_30 u141_0 u141_1 u141_2 u141_3 lc_30 lk_30 ln_30 lt_30 ll_30 lr_30 tw_30 tn_30 tt_30 _ hq153 hst) (va_cwS 1 hts gL_law_L_causes rfl rfl rfl (by decide +kernel) ⟨Nat.le_of_ble_eq_true rfl, Nat.le_of_ble_eq_true rfl⟩) ⟨PX.blind, fun U hU hW => ⟨rfl, hg U hU hW⟩⟩ rfl rfl hl.1 rfl (lv_room ((by exact Nat.le_of_ble_eq_true rfl))) dL_law_419 ⟨(by show (kc30 + 7) + 1095 ≤ 918419; omega), (by show (ks30 + 42) + 6281 ≤ 6345925; omega)⟩) (fun r153 u H locs hw hP hD hS => ?_)
                            obtain ⟨hw, hb153⟩ := hw
                            subst hw
                            refine lv_if_eq (tgt := 429) hx hb dL_law_422 (by decide) (fun c154 => ?_) (fun c154 => ?_)
                            · replace hp := hp.1 c154
                              replace he := he.trans (if_pos c154)
                              refine lv_iconst (v := 0) hx hb dL_law_429 (by decide) ?_
                              subst he
                              refine W.widen (k := (kc30 + 15967)) (n := (ks30 + 95513)) (by omega) (by omega) ?_
                              exact kont149 (Or.inl rfl) _ _ hP hD hS _ (lv_sub hl [1, 2, 3] rfl)
                            · replace hp := hp.2 c154
                              replace he := he.trans (if_neg c154)
                              refine lv_iconst (v := 1) hx hb dL_law_425 (by decide) ?_
                              refine lv_goto (tgt := 430) hx hb dL_law_426 (by decide) ?_
                              subst he
                              refine W.widen (k := (kc30 + 15967)) (n := (ks30 + 95513)) (by omega) (by omega) ?_
                              exact kont149 (Or.inr rfl) _ _ hP hD hS _ (lv_sub hl [1, 2, 3] rfl)
                        · replace hp := hp.2 c151
                          replace he := he.trans (if_neg c151)
                          refine lv_aload_n hx hb dL_law_405 rfl (lv_at hl 2 rfl) ?_
                          have hq155 := hp.1
                          replace hp := hp.2
                          refine k_ycalli (S := Unit) (wc := (W_X4 cI q0 n1_0 n1_1 n1_2 n1_3 n1_4 n1_5 n1_6 n1_7 n1_8 n1_9 n1_10 n1_11 n1_12 n1_13 xr_30 xt_30 u141_0 u141_1 u141_2 u141_3 lc_30 lk_30 ln_30 lt_30 ll_30 lr_30 tw_30 tn_30 tt_30)) (wr := ([] : va_W)) (w1 := fun u => (W_X4 cI q0 n1_0 n1_1 n1_2 n1_3 n1_4 n1_5 n1_6 n1_7 n1_8 n1_9 n1_10 n1_11 n1_12 n1_13 xr_30 xt_30 u141_0 u141_1 u141_2 u141_3 lc_30 lk_30 ln_30 lt_30 ll_30 lr_30 tw_30 tn_30 tt_30)) (fun u => (W_X4 cI q0 n1_0 n1_1 n1_2 n1_3 n1_4 n1_5 n1_6 n1_7 n1_8 n1_9 n1_10 n1_11 n1_12 n1_13 xr_30 xt_30 u141_0 u141_1 u141_2 u141_3 lc_30 lk_30 ln_30 lt_30 ll_30 lr_30 tw_30 tn_30 tt_30)) hP (hK.sub [0] rfl) hD hN hXB hS hA [0, 1, 2, 3, 4, 5, 6, 7, 8, 9, 10, 11, 12, 13, 14] [] rfl rfl (by decide) (by decide) (by decide) [0, 1, 2, 3, 4, 5, 6, 7, 8, 9, 10, 11, 12, 13, 14] (by decide) (fun _ => rfl) (fun hg => va_runS (As := [.ref q0]) (rest := []) ⟨hx, hb, hml, hown, hts⟩ (c_L_hangs l D cI q0 n1_0 n1_1 n1_2 n1_3 n1_4 n1_5 n1_6 n1_7 n1_8 n1_9 n1_10 n1_11 n1_12 n1_13 xr_30 xt_30 u141_0 u141_1 u141_2 u141_3 lc_30 lk_30 ln_30 lt_30 ll_30 lr_30 tw_30 tn_30 tt_30 _ hq155 hst) (va_cwS 1 hts gL_law_L_hangs rfl rfl rfl (by decide +kernel) ⟨Nat.le_of_ble_eq_true rfl, Nat.le_of_ble_eq_true rfl⟩) ⟨PX.blind, fun U hU hW => ⟨rfl, hg U hU hW⟩⟩ rfl rfl hl.1 rfl (lv_room ((by exact Nat.le_of_ble_eq_true rfl))) dL_law_406 ⟨(by show (kc30 + 7) + 14865 ≤ 918419; omega), (by show (ks30 + 42) + 89190 ≤ 6345925; omega)⟩) (fun r155 u H locs hw hP hD hS => ?_)
                          obtain ⟨hw, hb155⟩ := hw
                          subst hw
                          refine lv_if_eq (tgt := 429) hx hb dL_law_409 (by decide) (fun c156 => ?_) (fun c156 => ?_)
                          · replace hp := hp.1 c156
                            replace he := he.trans (if_pos c156)
                            refine lv_iconst (v := 0) hx hb dL_law_429 (by decide) ?_
                            subst he
                            refine W.widen (k := (kc30 + 15967)) (n := (ks30 + 95513)) (by omega) (by omega) ?_
                            exact kont149 (Or.inl rfl) _ _ hP hD hS _ (lv_sub hl [1, 2, 3] rfl)
                          · replace hp := hp.2 c156
                            replace he := he.trans (if_neg c156)
                            refine lv_iload_n hx hb dL_law_412 rfl (lv_at hl 1 rfl) ?_
                            refine lv_iconst (v := 3) hx hb dL_law_413 (by decide) ?_
                            refine lv_irem hx hb dL_law_414 (by decide) ?_
                            refine lv_if_gt (tgt := 425) hx hb dL_law_415 (by decide) (fun c157 => ?_) (fun c157 => ?_)
                            · replace hp := hp.1 c157
                              replace he := he.trans (if_pos c157)
                              refine lv_iconst (v := 1) hx hb dL_law_425 (by decide) ?_
                              refine lv_goto (tgt := 430) hx hb dL_law_426 (by decide) ?_
                              subst he
                              refine W.widen (k := (kc30 + 15967)) (n := (ks30 + 95513)) (by omega) (by omega) ?_
                              exact kont149 (Or.inr rfl) _ _ hP hD hS _ (lv_sub hl [1, 2, 3] rfl)
                            · replace hp := hp.2 c157
                              replace he := he.trans (if_neg c157)
                              refine lv_aload_n hx hb dL_law_418 rfl (lv_at hl 2 rfl) ?_
                              have hq158 := hp.1
                              replace hp := hp.2
                              refine k_ycalli (S := Unit) (wc := (W_X4 cI q0 n1_0 n1_1 n1_2 n1_3 n1_4 n1_5 n1_6 n1_7 n1_8 n1_9 n1_10 n1_11 n1_12 n1_13 xr_30 xt_30 u141_0 u141_1 u141_2 u141_3 lc_30 lk_30 ln_30 lt_30 ll_30 lr_30 tw_30 tn_30 tt_30)) (wr := ([] : va_W)) (w1 := fun u => (W_X4 cI q0 n1_0 n1_1 n1_2 n1_3 n1_4 n1_5 n1_6 n1_7 n1_8 n1_9 n1_10 n1_11 n1_12 n1_13 xr_30 xt_30 u141_0 u141_1 u141_2 u141_3 lc_30 lk_30 ln_30 lt_30 ll_30 lr_30 tw_30 tn_30 tt_30)) (fun u => (W_X4 cI q0 n1_0 n1_1 n1_2 n1_3 n1_4 n1_5 n1_6 n1_7 n1_8 n1_9 n1_10 n1_11 n1_12 n1_13 xr_30 xt_30 u141_0 u141_1 u141_2 u141_3 lc_30 lk_30 ln_30 lt_30 ll_30 lr_30 tw_30 tn_30 tt_30)) hP (hK.sub [0] rfl) hD hN hXB hS hA [0, 1, 2, 3, 4, 5, 6, 7, 8, 9, 10, 11, 12, 13, 14] [] rfl rfl (by decide) (by decide) (by decide) [0, 1, 2, 3, 4, 5, 6, 7, 8, 9, 10, 11, 12, 13, 14] (by decide) (fun _ => rfl) (fun hg => va_runS (As := [.ref q0]) (rest := []) ⟨hx, hb, hml, hown, hts⟩ (c_L_causes l D cI q0 n1_0 n1_1 n1_2 n1_3 n1_4 n1_5 n1_6 n1_7 n1_8 n1_9 n1_10 n1_11 n1_12 n1_13 xr_30 xt_30 u141_0 u141_1 u141_2 u141_3 lc_30 lk_30 ln_30 lt_30 ll_30 lr_30 tw_30 tn_30 tt_30 _ hq158 hst) (va_cwS 1 hts gL_law_L_causes rfl rfl rfl (by decide +kernel) ⟨Nat.le_of_ble_eq_true rfl, Nat.le_of_ble_eq_true rfl⟩) ⟨PX.blind, fun U hU hW => ⟨rfl, hg U hU hW⟩⟩ rfl rfl hl.1 rfl (lv_room ((by exact Nat.le_of_ble_eq_true rfl))) dL_law_419 ⟨(by show (kc30 + 14872) + 1095 ≤ 918419; omega), (by show (ks30 + 89232) + 6281 ≤ 6345925; omega)⟩) (fun r158 u H locs hw hP hD hS => ?_)
                              obtain ⟨hw, hb158⟩ := hw
                              subst hw
                              refine lv_if_eq (tgt := 429) hx hb dL_law_422 (by decide) (fun c159 => ?_) (fun c159 => ?_)
                              · replace hp := hp.1 c159
                                replace he := he.trans (if_pos c159)
                                refine lv_iconst (v := 0) hx hb dL_law_429 (by decide) ?_
                                subst he
                                exact kont149 (Or.inl rfl) _ _ hP hD hS _ (lv_sub hl [1, 2, 3] rfl)
                              · replace hp := hp.2 c159
                                replace he := he.trans (if_neg c159)
                                refine lv_iconst (v := 1) hx hb dL_law_425 (by decide) ?_
                                refine lv_goto (tgt := 430) hx hb dL_law_426 (by decide) ?_
                                subst he
                                exact kont149 (Or.inr rfl) _ _ hP hD hS _ (lv_sub hl [1, 2, 3] rfl)
                    replace he := hJ144
                    replace hp := hpJ144
                    refine lv_icmp_ne (tgt := 153) hx hb dL_law_129 (by decide) (fun c145 => ?_) (fun c145 => ?_)
                    · replace hp := hp.2 c145
                      replace he := he.trans (if_neg c145)
                      refine lv_iconst (v := 0) hx hb dL_law_153 (by decide) ?_
                      subst he
                      refine W.widen (k := (kc30 + 7)) (n := (ks30 + 42)) (by omega) (by omega) ?_
                      exact kont144 (Or.inl rfl) _ _ hP hD hS _ (lv_sub hl [3, 4, 5] rfl)
                    · replace hp := hp.1 c145
                      replace he := he.trans (if_pos c145)
                      refine lv_aload_n hx hb dL_law_132 rfl (lv_at hl 4 rfl) ?_
                      refine lv_iload hx hb dL_law_133 (lv_at hl 2 rfl) ?_
                      refine lv_iload hx hb dL_law_135 (lv_at hl 1 rfl) ?_
                      have hq146 := hp.1
                      replace hp := hp.2
                      refine k_ycalli (S := Unit) (wc := (W_X4 cI q0 n1_0 n1_1 n1_2 n1_3 n1_4 n1_5 n1_6 n1_7 n1_8 n1_9 n1_10 n1_11 n1_12 n1_13 xr_30 xt_30 u141_0 u141_1 u141_2 u141_3 lc_30 lk_30 ln_30 lt_30 ll_30 lr_30 tw_30 tn_30 tt_30)) (wr := ([] : va_W)) (w1 := fun u => (W_X4 cI q0 n1_0 n1_1 n1_2 n1_3 n1_4 n1_5 n1_6 n1_7 n1_8 n1_9 n1_10 n1_11 n1_12 n1_13 xr_30 xt_30 u141_0 u141_1 u141_2 u141_3 lc_30 lk_30 ln_30 lt_30 ll_30 lr_30 tw_30 tn_30 tt_30)) (fun u => (W_X4 cI q0 n1_0 n1_1 n1_2 n1_3 n1_4 n1_5 n1_6 n1_7 n1_8 n1_9 n1_10 n1_11 n1_12 n1_13 xr_30 xt_30 u141_0 u141_1 u141_2 u141_3 lc_30 lk_30 ln_30 lt_30 ll_30 lr_30 tw_30 tn_30 tt_30)) hP (hK.sub [0] rfl) hD hN hXB hS hA [0, 1, 2, 3, 4, 5, 6, 7, 8, 9, 10, 11, 12, 13, 14] [] rfl rfl (by decide) (by decide) (by decide) [0, 1, 2, 3, 4, 5, 6, 7, 8, 9, 10, 11, 12, 13, 14] (by decide) (fun _ => rfl) (fun hg => vx_runSW (As := [.ref q0, .int (((f_L_cell L xs v30_3) / 8) - ((f_L_cell L xs v30_3) / 8) / 14 * 14), .int y11_7]) (rest := []) ⟨hx, hb, hml, hown, hts⟩ (c_L_needs l D cI q0 n1_0 n1_1 n1_2 n1_3 n1_4 n1_5 n1_6 n1_7 n1_8 n1_9 n1_10 n1_11 n1_12 n1_13 xr_30 xt_30 u141_0 u141_1 u141_2 u141_3 lc_30 lk_30 ln_30 lt_30 ll_30 lr_30 tw_30 tn_30 tt_30 _ (((f_L_cell L xs v30_3) / 8) - ((f_L_cell L xs v30_3) / 8) / 14 * 14) y11_7 hq146 hst) (vx_cwSW 3 hts gL_law_L_needs rfl rfl rfl (by decide +kernel) ⟨Nat.le_of_ble_eq_true rfl, Nat.le_of_ble_eq_true rfl⟩) ⟨PX.blind, fun U hU hW => ⟨rfl, hg U hU hW⟩⟩ rfl rfl hl.1 rfl (lv_room ((by exact Nat.le_of_ble_eq_true rfl))) dL_law_137 ⟨(by show (kc30 + 5) + 2 ≤ 918419; omega), (by show (ks30 + 30) + 12 ≤ 6345925; omega)⟩) (fun r146 u H locs hw hP hD hS => ?_)
                      subst hw
                      refine lv_iconst (v := 1) hx hb dL_law_140 (by decide) ?_
                      refine lv_icmp_eq (tgt := 149) hx hb dL_law_141 (by decide) (fun c147 => ?_) (fun c147 => ?_)
                      · replace hp := hp.1 c147
                        replace he := he.trans (if_pos c147)
                        refine lv_iconst (v := 1) hx hb dL_law_149 (by decide) ?_
                        refine lv_goto (tgt := 154) hx hb dL_law_150 (by decide) ?_
                        subst he
                        exact kont144 (Or.inr rfl) _ _ hP hD hS _ (lv_sub hl [3, 4, 5] rfl)
                      · replace hp := hp.2 c147
                        replace he := he.trans (if_neg c147)
                        refine lv_iload hx hb dL_law_144 (lv_at hl 0 rfl) ?_
                        refine lv_if_ne (tgt := 153) hx hb dL_law_146 (by decide) (fun c148 => ?_) (fun c148 => ?_)
                        · replace hp := hp.2 c148
                          replace he := he.trans (if_neg c148)
                          refine lv_iconst (v := 0) hx hb dL_law_153 (by decide) ?_
                          subst he
                          exact kont144 (Or.inl rfl) _ _ hP hD hS _ (lv_sub hl [3, 4, 5] rfl)
                        · replace hp := hp.1 c148
                          replace he := he.trans (if_pos c148)
                          refine lv_iconst (v := 1) hx hb dL_law_149 (by decide) ?_
                          refine lv_goto (tgt := 154) hx hb dL_law_150 (by decide) ?_
                          subst he
                          exact kont144 (Or.inr rfl) _ _ hP hD hS _ (lv_sub hl [3, 4, 5] rfl)
                  replace he := hJ142
                  replace hp := hpJ142
                  refine lv_if_lt (tgt := 126) hx hb dL_law_119 (by decide) (fun c143 => ?_) (fun c143 => ?_)
                  · replace hp := hp.1 c143
                    replace he := he.trans (if_pos c143)
                    refine lv_iconst (v := 0) hx hb dL_law_126 (by decide) ?_
                    subst he
                    exact kont142 (Or.inl rfl) _ _ hP hD hS _ (lv_sub hl [0, 1, 2, 3, 4, 5] rfl)
                  · replace hp := hp.2 c143
                    replace he := he.trans (if_neg c143)
                    refine lv_iconst (v := 1) hx hb dL_law_122 (by decide) ?_
                    refine lv_goto (tgt := 127) hx hb dL_law_123 (by decide) ?_
                    subst he
                    exact kont142 (Or.inr rfl) _ _ hP hD hS _ (lv_sub hl [0, 1, 2, 3, 4, 5] rfl)
                replace he := hJ137
                replace hp := hpJ137
                refine lv_icmp_eq (tgt := 108) hx hb dL_law_90 (by decide) (fun c138 => ?_) (fun c138 => ?_)
                · replace hp := hp.1 c138
                  replace he := he.trans (if_pos c138)
                  refine lv_iconst (v := 0) hx hb dL_law_108 (by decide) ?_
                  subst he
                  refine W.widen (k := (kc30 + 2)) (n := (ks30 + 12)) (by omega) (by omega) ?_
                  exact kont137 (Or.inl rfl) _ _ hP hD hS _ (lv_sub hl [0, 1, 4, 6, 7] rfl)
                · replace hp := hp.2 c138
                  replace he := he.trans (if_neg c138)
                  refine lv_aload_n hx hb dL_law_93 rfl (lv_at hl 6 rfl) ?_
                  refine lv_iload hx hb dL_law_94 (lv_at hl 0 rfl) ?_
                  refine lv_iload hx hb dL_law_96 (lv_at hl 1 rfl) ?_
                  have hq139 := hp.1
                  replace hp := hp.2
                  refine k_ycalli (S := Unit) (wc := (W_X4 cI q0 n1_0 n1_1 n1_2 n1_3 n1_4 n1_5 n1_6 n1_7 n1_8 n1_9 n1_10 n1_11 n1_12 n1_13 xr_30 xt_30 gn_30 gu_30 gb_30 ga_30 lc_30 lk_30 ln_30 lt_30 ll_30 lr_30 tw_30 tn_30 tt_30)) (wr := ([] : va_W)) (w1 := fun u => (W_X4 cI q0 n1_0 n1_1 n1_2 n1_3 n1_4 n1_5 n1_6 n1_7 n1_8 n1_9 n1_10 n1_11 n1_12 n1_13 xr_30 xt_30 gn_30 gu_30 gb_30 ga_30 lc_30 lk_30 ln_30 lt_30 ll_30 lr_30 tw_30 tn_30 tt_30)) (fun u => (W_X4 cI q0 n1_0 n1_1 n1_2 n1_3 n1_4 n1_5 n1_6 n1_7 n1_8 n1_9 n1_10 n1_11 n1_12 n1_13 xr_30 xt_30 gn_30 gu_30 gb_30 ga_30 lc_30 lk_30 ln_30 lt_30 ll_30 lr_30 tw_30 tn_30 tt_30)) hP (hK.sub [0] rfl) hD hN hXB hS hA [0, 1, 2, 3, 4, 5, 6, 7, 8, 9, 10, 11, 12, 13, 14] [] rfl rfl (by decide) (by decide) (by decide) [0, 1, 2, 3, 4, 5, 6, 7, 8, 9, 10, 11, 12, 13, 14] (by decide) (fun _ => rfl) (fun hg => vx_runSW (As := [.ref q0, .int y11_7, .int (((f_L_cell L xs v30_3) / 8) - ((f_L_cell L xs v30_3) / 8) / 14 * 14)]) (rest := []) ⟨hx, hb, hml, hown, hts⟩ (c_L_depends l D cI q0 n1_0 n1_1 n1_2 n1_3 n1_4 n1_5 n1_6 n1_7 n1_8 n1_9 n1_10 n1_11 n1_12 n1_13 xr_30 xt_30 gn_30 gu_30 gb_30 ga_30 lc_30 lk_30 ln_30 lt_30 ll_30 lr_30 tw_30 tn_30 tt_30 _ y11_7 (((f_L_cell L xs v30_3) / 8) - ((f_L_cell L xs v30_3) / 8) / 14 * 14) hq139 hst) (vx_cwSW 3 hts gL_law_L_depends rfl rfl rfl (by decide +kernel) ⟨Nat.le_of_ble_eq_true rfl, Nat.le_of_ble_eq_true rfl⟩) ⟨PX.blind, fun U hU hW => ⟨rfl, hg U hU hW⟩⟩ rfl rfl hl.1 rfl (lv_room ((by exact Nat.le_of_ble_eq_true rfl))) dL_law_98 ⟨(by show kc30 + 2 ≤ 918419; omega), (by show ks30 + 12 ≤ 6345925; omega)⟩) (fun r139 u H locs hw hP hD hS => ?_)
                  subst hw
                  refine lv_if_ne (tgt := 108) hx hb dL_law_101 (by decide) (fun c140 => ?_) (fun c140 => ?_)
                  · replace hp := hp.2 c140
                    replace he := he.trans (if_neg c140)
                    refine lv_iconst (v := 0) hx hb dL_law_108 (by decide) ?_
                    subst he
                    exact kont137 (Or.inl rfl) _ _ hP hD hS _ (lv_sub hl [0, 1, 4, 6, 7] rfl)
                  · replace hp := hp.1 c140
                    replace he := he.trans (if_pos c140)
                    refine lv_iconst (v := 1) hx hb dL_law_104 (by decide) ?_
                    refine lv_goto (tgt := 109) hx hb dL_law_105 (by decide) ?_
                    subst he
                    exact kont137 (Or.inr rfl) _ _ hP hD hS _ (lv_sub hl [0, 1, 4, 6, 7] rfl)
    exact loop7 41 j3 (0 : Int32) (0 : Int32) (0 : Int32) u1_0 u1_1 u1_2 u1_3 u1_4 u1_5 u1_6 u1_7 u1_8 u1_9 u1_10 u1_11 u1_12 15975 97074 (Nat.le_refl _) (Nat.le_refl _) hpL7 hL7 _ _ hP hD hS _ (lv_sub hl [0, 1, 2, 3] rfl)
  replace he := hJ3
  replace hp := hpJ3
  refine lv_if_eq (tgt := 26) hx hb dL_law_12 (by decide) (fun c4 => ?_) (fun c4 => ?_)
  · replace hp := hp.1 c4
    replace he := he.trans (if_pos c4)
    refine lv_iconst (v := 0) hx hb dL_law_26 (by decide) ?_
    subst he
    refine W.widen (k := 15975) (n := 97074) (by omega) (by omega) ?_
    exact kont3 (Or.inl rfl) _ _ hP hD hS _ (lv_sub hl [0, 1] rfl)
  · replace hp := hp.2 c4
    replace he := he.trans (if_neg c4)
    refine lv_aload_n hx hb dL_law_15 rfl (lv_at hl 0 rfl) ?_
    have hq5 := hp.1
    replace hp := hp.2
    refine k_ycalli (S := Unit) (wc := (W_X4 cI q0 n1_0 n1_1 n1_2 n1_3 n1_4 n1_5 n1_6 n1_7 n1_8 n1_9 n1_10 n1_11 n1_12 n1_13 0 0 u1_0 u1_1 u1_2 u1_3 u1_4 u1_5 u1_6 u1_7 u1_8 u1_9 u1_10 u1_11 u1_12)) (wr := ([] : va_W)) (w1 := fun u => (W_X4 cI q0 n1_0 n1_1 n1_2 n1_3 n1_4 n1_5 n1_6 n1_7 n1_8 n1_9 n1_10 n1_11 n1_12 n1_13 0 0 u1_0 u1_1 u1_2 u1_3 u1_4 u1_5 u1_6 u1_7 u1_8 u1_9 u1_10 u1_11 u1_12)) (fun u => (W_X4 cI q0 n1_0 n1_1 n1_2 n1_3 n1_4 n1_5 n1_6 n1_7 n1_8 n1_9 n1_10 n1_11 n1_12 n1_13 0 0 u1_0 u1_1 u1_2 u1_3 u1_4 u1_5 u1_6 u1_7 u1_8 u1_9 u1_10 u1_11 u1_12)) hP (hK.sub [0] rfl) hD hN hXB hS hA [0, 1, 2, 3, 4, 5, 6, 7, 8, 9, 10, 11, 12, 13, 14] [] rfl rfl (by decide) (by decide) (by decide) [0, 1, 2, 3, 4, 5, 6, 7, 8, 9, 10, 11, 12, 13, 14] (by decide) (fun _ => rfl) (fun hg => va_runS (As := [.ref q0]) (rest := []) ⟨hx, hb, hml, hown, hts⟩ (c_L_causes l D cI q0 n1_0 n1_1 n1_2 n1_3 n1_4 n1_5 n1_6 n1_7 n1_8 n1_9 n1_10 n1_11 n1_12 n1_13 (0 : Int32) (0 : Int32) u1_0 u1_1 u1_2 u1_3 u1_4 u1_5 u1_6 u1_7 u1_8 u1_9 u1_10 u1_11 u1_12 _ hq5 hst) (va_cwS 1 hts gL_law_L_causes rfl rfl rfl (by decide +kernel) ⟨Nat.le_of_ble_eq_true rfl, Nat.le_of_ble_eq_true rfl⟩) ⟨PX.blind, fun U hU hW => ⟨rfl, hg U hU hW⟩⟩ rfl rfl hl.1 rfl (lv_room ((by exact Nat.le_of_ble_eq_true rfl))) dL_law_16 ⟨(by show 14880 + 1095 ≤ 918419; omega), (by show 90793 + 6281 ≤ 6345925; omega)⟩) (fun r5 u H locs hw hP hD hS => ?_)
    obtain ⟨hw, hb5⟩ := hw
    subst hw
    refine lv_if_eq (tgt := 26) hx hb dL_law_19 (by decide) (fun c6 => ?_) (fun c6 => ?_)
    · replace hp := hp.1 c6
      replace he := he.trans (if_pos c6)
      refine lv_iconst (v := 0) hx hb dL_law_26 (by decide) ?_
      subst he
      exact kont3 (Or.inl rfl) _ _ hP hD hS _ (lv_sub hl [0, 1] rfl)
    · replace hp := hp.2 c6
      replace he := he.trans (if_neg c6)
      refine lv_iconst (v := 1) hx hb dL_law_22 (by decide) ?_
      refine lv_goto (tgt := 27) hx hb dL_law_23 (by decide) ?_
      subst he
      exact kont3 (Or.inr rfl) _ _ hP hD hS _ (lv_sub hl [0, 1] rfl)
