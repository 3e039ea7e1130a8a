set_option maxHeartbeats 8000000 in
set_option maxRecDepth 100000 in
theorem law_c3 {p : Program} {l : Launch} {e : Env} {s : State} {m : MethodId} {below : List Frame} {meth : Method} {c : Code} {D : va_G} {cI cJ : ClassId} {b0 L : Nat} {xs : Nat → Int32} {A : Nat → Prop} {q0 n1_0 n1_1 n1_2 n1_3 n1_4 n1_5 n1_6 n1_7 n1_8 n1_9 n1_10 n1_11 n1_12 n1_13 q8 n2_0 n2_1 n2_2 n2_3 n2_4 n2_5 n2_6 n2_7 n2_8 n2_9 n2_10 o0 : Nat} (hx : p.tables.exec = Jvm.exec) (hb : c.code = code) (hr : meth.sig.returnType = ret) (hml : c.maxLocals = 7) (hown : s.vm.findClass RL = some m.cls) (hts : ∀ w ∈ wsL_law, w.before #[Value.ref b0] s = true) (hX : va_X b0 L xs s s.heap) (hbl : b0 < s.heap.size) (hlocks : meth.locks = false) (hbA : ¬ A b0) (hA : ∀ q : Nat, s.heap.size ≤ q → A q) (hAle : ∀ q : Nat, A q → s.heap.size ≤ q) (hN : NB s) (hXB : XB A s s.heap) (hst : l.stackTraces = false) (hK : va_K D vwCl [(cI, .int), (cJ, .long)] s) {n : Nat} (ih : ∀ (v23_4 : Int32) (xr_23 : Int32) (xt_23 : Int32) (gn_23 : AA) (gu_23 : AA) (gb_23 : AA) (ga_23 : AA) (lc_23 : Int32) (lk_23 : AA) (ln_23 : AA) (lt_23 : AA) (ll_23 : AA) (lr_23 : AA) (tw_23 : Int32) (tn_23 : AA) (tt_23 : AA) (mr_23 : Int32) (mc_23 : Int32) (me_23 : Int32) (mw_23 : Int32) (mh_23 : Int32) (mn_23 : AA) (mu_23 : AA) (ms_23 : AA) (mt_23 : AA) (md_23 : AA) (mz_23 : AA) (mi_23 : AA) (mk_23 : AA) (mo_23 : AA) (mj_23 : AA) (ml_23 : AA) (oo_23 : LA) (kc ks : Nat), kc + n * 3 + 64 ≤ 601024 → ks + n * 18 + 64 ≤ 7293034 → p_L_law_L23 xs L n v23_4 xr_23 xt_23 gn_23 gu_23 gb_23 ga_23 lc_23 lk_23 ln_23 lt_23 ll_23 lr_23 tw_23 tn_23 tt_23 mr_23 mc_23 me_23 mw_23 mh_23 mn_23 mu_23 ms_23 mt_23 md_23 mz_23 mi_23 mk_23 mo_23 mj_23 ml_23 oo_23 → (1 : Int32) = f_L_law_L23 xs L n v23_4 xr_23 xt_23 gn_23 gu_23 gb_23 ga_23 lc_23 lk_23 ln_23 lt_23 ll_23 lr_23 tw_23 tn_23 tt_23 mr_23 mc_23 me_23 mw_23 mh_23 mn_23 mu_23 ms_23 mt_23 md_23 mz_23 mi_23 mk_23 mo_23 mj_23 ml_23 oo_23 → ∀ (H : Heap) (locs : List Loc), va_P D vwCl (W_L cI cJ q0 n1_0 n1_1 n1_2 n1_3 n1_4 n1_5 n1_6 n1_7 n1_8 n1_9 n1_10 n1_11 n1_12 n1_13 q8 n2_0 n2_1 n2_2 n2_3 n2_4 n2_5 n2_6 n2_7 n2_8 n2_9 n2_10 o0 xr_23 xt_23 gn_23 gu_23 gb_23 ga_23 lc_23 lk_23 ln_23 lt_23 ll_23 lr_23 tw_23 tn_23 tt_23 mr_23 mc_23 me_23 mw_23 mh_23 mn_23 mu_23 ms_23 mt_23 md_23 mz_23 mi_23 mk_23 mo_23 mj_23 ml_23 oo_23) H → va_D A (W_L cI cJ q0 n1_0 n1_1 n1_2 n1_3 n1_4 n1_5 n1_6 n1_7 n1_8 n1_9 n1_10 n1_11 n1_12 n1_13 q8 n2_0 n2_1 n2_2 n2_3 n2_4 n2_5 n2_6 n2_7 n2_8 n2_9 n2_10 o0 xr_23 xt_23 gn_23 gu_23 gb_23 ga_23 lc_23 lk_23 ln_23 lt_23 ll_23 lr_23 tw_23 tn_23 tt_23 mr_23 mc_23 me_23 mw_23 mh_23 mn_23 mu_23 ms_23 mt_23 md_23 mz_23 mi_23 mk_23 mo_23 mj_23 ml_23 oo_23) → va_S A s.heap H locs → ∀ ls : Array Slot, lv_has ls 7 [(4, .int v23_4), (3, .ref o0), (2, .ref q8), (1, .ref q0), (0, .ref b0)] → W p l e room_1 s m #[Value.ref b0] below meth c H locs kc ks (lw_Z below #[Value.ref b0] s) (F0 m 23 ls [])) (v23_4 : Int32) (xr_23 : Int32) (xt_23 : Int32) (gn_23 : AA) (gu_23 : AA) (gb_23 : AA) (ga_23 : AA) (lc_23 : Int32) (lk_23 : AA) (ln_23 : AA) (lt_23 : AA) (ll_23 : AA) (lr_23 : AA) (tw_23 : Int32) (tn_23 : AA) (tt_23 : AA) (mr_23 : Int32) (mc_23 : Int32) (me_23 : Int32) (mw_23 : Int32) (mh_23 : Int32) (mn_23 : AA) (mu_23 : AA) (ms_23 : AA) (mt_23 : AA) (md_23 : AA) (mz_23 : AA) (mi_23 : AA) (mk_23 : AA) (mo_23 : AA) (mj_23 : AA) (ml_23 : AA) (oo_23 : LA) (kc ks : Nat) (hkc : kc + (n + 1) * 3 + 64 ≤ 601024) (hks : ks + (n + 1) * 18 + 64 ≤ 7293034) (hp : p_L_c3 (p_L_law_L23 xs L n) xs L v23_4 xr_23 xt_23 gn_23 gu_23 gb_23 ga_23 lc_23 lk_23 ln_23 lt_23 ll_23 lr_23 tw_23 tn_23 tt_23 mr_23 mc_23 me_23 mw_23 mn_23 mu_23 ms_23 mt_23 md_23 mz_23 mi_23 mk_23 mo_23 mj_23 ml_23 oo_23) (he : (1 : Int32) = f_L_c3 (f_L_law_L23 xs L n) xs v23_4 xr_23 xt_23 gn_23 gu_23 gb_23 ga_23 lc_23 lk_23 ln_23 lt_23 ll_23 lr_23 tw_23 tn_23 tt_23 mr_23 mc_23 me_23 mw_23 mn_23 mu_23 ms_23 mt_23 md_23 mz_23 mi_23 mk_23 mo_23 mj_23 ml_23 oo_23) (H : Heap) (locs : List Loc) (hP : va_P D vwCl (W_L cI cJ q0 n1_0 n1_1 n1_2 n1_3 n1_4 n1_5 n1_6 n1_7 n1_8 n1_9 n1_10 n1_11 n1_12 n1_13 q8 n2_0 n2_1 n2_2 n2_3 n2_4 n2_5 n2_6 n2_7 n2_8 n2_9 n2_10 o0 xr_23 xt_23 gn_23 gu_23 gb_23 ga_23 lc_23 lk_23 ln_23 lt_23 ll_23 lr_23 tw_23 tn_23 tt_23 mr_23 mc_23 me_23 mw_23 mh_23 mn_23 mu_23 ms_23 mt_23 md_23 mz_23 mi_23 mk_23 mo_23 mj_23 ml_23 oo_23) H) (hD : va_D A (W_L cI cJ q0 n1_0 n1_1 n1_2 n1_3 n1_4 n1_5 n1_6 n1_7 n1_8 n1_9 n1_10 n1_11 n1_12 n1_13 q8 n2_0 n2_1 n2_2 n2_3 n2_4 n2_5 n2_6 n2_7 n2_8 n2_9 n2_10 o0 xr_23 xt_23 gn_23 gu_23 gb_23 ga_23 lc_23 lk_23 ln_23 lt_23 ll_23 lr_23 tw_23 tn_23 tt_23 mr_23 mc_23 me_23 mw_23 mh_23 mn_23 mu_23 ms_23 mt_23 md_23 mz_23 mi_23 mk_23 mo_23 mj_23 ml_23 oo_23)) (hS : va_S A s.heap H locs) (ls : Array Slot) (hl : lv_has ls 7 [(4, .int v23_4), (3, .ref o0), (2, .ref q8), (1, .ref q0), (0, .ref b0)]) : W p l e room_1 s m #[Value.ref b0] below meth c H locs kc ks (lw_Z below #[Value.ref b0] s) (F0 m 393 ls []) := by
  replace he := he.trans (f_L_c3.eq_1 ..)
  replace hp := Eq.mp (p_L_c3.eq_1 ..) hp
  refine lv_aload_n hx hb dL_law_393 rfl (lv_at hl 3 rfl) ?_
  refine lv_aload_n hx hb dL_law_394 rfl (lv_at hl 4 rfl) ?_
  refine lv_iload hx hb dL_law_395 (lv_at hl 0 rfl) ?_
  refine lv_iconst (v := 1) hx hb dL_law_397 (by decide) ?_
  refine lv_iadd hx hb dL_law_398 ?_
  have h45 := hp.1
  replace hp := hp.2
  refine va_sld hx hb hX hbl hbA hS h45 dL_law_399 ?_
  refine lv_aload_n hx hb dL_law_400 rfl (lv_at hl 4 rfl) ?_
  refine lv_iload hx hb dL_law_401 (lv_at hl 0 rfl) ?_
  refine lv_iconst (v := 2) hx hb dL_law_403 (by decide) ?_
  refine lv_iadd hx hb dL_law_404 ?_
  have h46 := hp.1
  replace hp := hp.2
  refine va_sld hx hb hX hbl hbA hS h46 dL_law_405 ?_
  refine lv_aload_n hx hb dL_law_406 rfl (lv_at hl 1 rfl) ?_
  have hq47 := hp.1
  replace hp := hp.2
  refine k_ycalli (S := LA) (wc := (W_O cI cJ q0 n1_0 n1_1 n1_2 n1_3 n1_4 n1_5 n1_6 n1_7 n1_8 n1_9 n1_10 n1_11 n1_12 n1_13 o0 xr_23 xt_23 gn_23 gu_23 gb_23 ga_23 lc_23 lk_23 ln_23 lt_23 ll_23 lr_23 tw_23 tn_23 tt_23 oo_23)) (wr := (W_X5 cI q8 n2_0 n2_1 n2_2 n2_3 n2_4 n2_5 n2_6 n2_7 n2_8 n2_9 n2_10 mr_23 mc_23 me_23 mw_23 mh_23 mn_23 mu_23 ms_23 mt_23 md_23 mz_23 mi_23 mk_23 mo_23 mj_23 ml_23)) (w1 := fun u => (W_O cI cJ q0 n1_0 n1_1 n1_2 n1_3 n1_4 n1_5 n1_6 n1_7 n1_8 n1_9 n1_10 n1_11 n1_12 n1_13 o0 xr_23 xt_23 gn_23 gu_23 gb_23 ga_23 lc_23 lk_23 ln_23 lt_23 ll_23 lr_23 tw_23 tn_23 tt_23 u)) (fun u => (W_L cI cJ q0 n1_0 n1_1 n1_2 n1_3 n1_4 n1_5 n1_6 n1_7 n1_8 n1_9 n1_10 n1_11 n1_12 n1_13 q8 n2_0 n2_1 n2_2 n2_3 n2_4 n2_5 n2_6 n2_7 n2_8 n2_9 n2_10 o0 xr_23 xt_23 gn_23 gu_23 gb_23 ga_23 lc_23 lk_23 ln_23 lt_23 ll_23 lr_23 tw_23 tn_23 tt_23 mr_23 mc_23 me_23 mw_23 mh_23 mn_23 mu_23 ms_23 mt_23 md_23 mz_23 mi_23 mk_23 mo_23 mj_23 ml_23 u)) hP hK hD hN hXB hS hA [0, 1, 2, 3, 4, 5, 6, 7, 8, 9, 10, 11, 12, 13, 14, 27] [15, 16, 17, 18, 19, 20, 21, 22, 23, 24, 25, 26] rfl rfl (by decide) (by decide) (by decide) [12, 13, 14, 15, 16, 17, 18, 19, 20, 21, 22, 23, 24, 25, 26, 0, 1, 2, 3, 4, 5, 6, 7, 8, 9, 10, 11, 27] (by decide) (fun _ => rfl) (fun hg => vx_runSW (As := [.ref q0, .int (xs ((v23_4 + 1)).toNatClampNeg), .int (xs ((v23_4 + 2)).toNatClampNeg), .ref o0]) (rest := []) ⟨hx, hb, hml, hown, hts⟩ (c_L_dependsOn l D cI cJ q0 n1_0 n1_1 n1_2 n1_3 n1_4 n1_5 n1_6 n1_7 n1_8 n1_9 n1_10 n1_11 n1_12 n1_13 o0 xr_23 xt_23 gn_23 gu_23 gb_23 ga_23 lc_23 lk_23 ln_23 lt_23 ll_23 lr_23 tw_23 tn_23 tt_23 oo_23 _ (xs ((v23_4 + 1)).toNatClampNeg) (xs ((v23_4 + 2)).toNatClampNeg) hq47 hst) (vx_cwSW 4 hts gL_law_L_dependsOn rfl rfl rfl (by decide +kernel) ⟨Nat.le_of_ble_eq_true rfl, Nat.le_of_ble_eq_true rfl⟩) ⟨PX.blind, fun U hU hW => ⟨rfl, hg U hU hW⟩⟩ rfl rfl hl.1 rfl (lv_room ((by exact Nat.le_of_ble_eq_true rfl))) dL_law_407 ⟨(by show kc + 2 ≤ 601024; omega), (by show ks + 12 ≤ 7293034; omega)⟩) (fun r47 u H locs hw hP hD hS => ?_)
  obtain ⟨u47_0, rfl⟩ : ∃ z, z = u := ⟨_, rfl⟩
  rw [hw] at he
  try dsimp only at he
  replace hp := hp r47 u47_0 hw
  have hP : va_P D vwCl (W_L cI cJ q0 n1_0 n1_1 n1_2 n1_3 n1_4 n1_5 n1_6 n1_7 n1_8 n1_9 n1_10 n1_11 n1_12 n1_13 q8 n2_0 n2_1 n2_2 n2_3 n2_4 n2_5 n2_6 n2_7 n2_8 n2_9 n2_10 o0 xr_23 xt_23 gn_23 gu_23 gb_23 ga_23 lc_23 lk_23 ln_23 lt_23 ll_23 lr_23 tw_23 tn_23 tt_23 mr_23 mc_23 me_23 mw_23 mh_23 mn_23 mu_23 ms_23 mt_23 md_23 mz_23 mi_23 mk_23 mo_23 mj_23 ml_23 u47_0) H := hP
  have hD : va_D A (W_L cI cJ q0 n1_0 n1_1 n1_2 n1_3 n1_4 n1_5 n1_6 n1_7 n1_8 n1_9 n1_10 n1_11 n1_12 n1_13 q8 n2_0 n2_1 n2_2 n2_3 n2_4 n2_5 n2_6 n2_7 n2_8 n2_9 n2_10 o0 xr_23 xt_23 gn_23 gu_23 gb_23 ga_23 lc_23 lk_23 ln_23 lt_23 ll_23 lr_23 tw_23 tn_23 tt_23 mr_23 mc_23 me_23 mw_23 mh_23 mn_23 mu_23 ms_23 mt_23 md_23 mz_23 mi_23 mk_23 mo_23 mj_23 ml_23 u47_0) := hD
  refine lv_istore (lv' := [(5, .int r47), (4, .int v23_4), (3, .ref o0), (2, .ref q8), (1, .ref q0), (0, .ref b0)]) hx hb dL_law_410 hl (by decide) rfl (fun ls hl => ?_)
  refine lv_aload_n hx hb dL_law_412 rfl (lv_at hl 3 rfl) ?_
  refine lv_aload_n hx hb dL_law_413 rfl (lv_at hl 5 rfl) ?_
  refine lv_iload hx hb dL_law_414 (lv_at hl 1 rfl) ?_
  refine lv_iconst (v := 1) hx hb dL_law_416 (by decide) ?_
  refine lv_iadd hx hb dL_law_417 ?_
  have h48 := hp.1
  replace hp := hp.2
  refine va_sld hx hb hX hbl hbA hS h48 dL_law_418 ?_
  refine lv_aload_n hx hb dL_law_419 rfl (lv_at hl 5 rfl) ?_
  refine lv_iload hx hb dL_law_420 (lv_at hl 1 rfl) ?_
  refine lv_iconst (v := 2) hx hb dL_law_422 (by decide) ?_
  refine lv_iadd hx hb dL_law_423 ?_
  have h49 := hp.1
  replace hp := hp.2
  refine va_sld hx hb hX hbl hbA hS h49 dL_law_424 ?_
  have hq50 := hp.1
  replace hp := hp.2
  refine k_calli (S := Int32) (wc := (W_X5 cI q8 n2_0 n2_1 n2_2 n2_3 n2_4 n2_5 n2_6 n2_7 n2_8 n2_9 n2_10 mr_23 mc_23 me_23 mw_23 mh_23 mn_23 mu_23 ms_23 mt_23 md_23 mz_23 mi_23 mk_23 mo_23 mj_23 ml_23)) (wr := (W_O cI cJ q0 n1_0 n1_1 n1_2 n1_3 n1_4 n1_5 n1_6 n1_7 n1_8 n1_9 n1_10 n1_11 n1_12 n1_13 o0 xr_23 xt_23 gn_23 gu_23 gb_23 ga_23 lc_23 lk_23 ln_23 lt_23 ll_23 lr_23 tw_23 tn_23 tt_23 u47_0)) (w1 := fun u => (W_X5 cI q8 n2_0 n2_1 n2_2 n2_3 n2_4 n2_5 n2_6 n2_7 n2_8 n2_9 n2_10 mr_23 mc_23 me_23 mw_23 u mn_23 mu_23 ms_23 mt_23 md_23 mz_23 mi_23 mk_23 mo_23 mj_23 ml_23)) (fun u => (W_L cI cJ q0 n1_0 n1_1 n1_2 n1_3 n1_4 n1_5 n1_6 n1_7 n1_8 n1_9 n1_10 n1_11 n1_12 n1_13 q8 n2_0 n2_1 n2_2 n2_3 n2_4 n2_5 n2_6 n2_7 n2_8 n2_9 n2_10 o0 xr_23 xt_23 gn_23 gu_23 gb_23 ga_23 lc_23 lk_23 ln_23 lt_23 ll_23 lr_23 tw_23 tn_23 tt_23 mr_23 mc_23 me_23 mw_23 u mn_23 mu_23 ms_23 mt_23 md_23 mz_23 mi_23 mk_23 mo_23 mj_23 ml_23 u47_0)) hP (hK.sub [0] rfl) hD hN hS hA [15, 16, 17, 18, 19, 20, 21, 22, 23, 24, 25, 26] [0, 1, 2, 3, 4, 5, 6, 7, 8, 9, 10, 11, 12, 13, 14, 27] rfl rfl (by decide) (by decide) (by decide) [0, 1, 2, 3, 4, 5, 6, 7, 8, 9, 10, 11, 12, 13, 14, 16, 17, 18, 19, 20, 21, 22, 23, 24, 25, 26, 27, 15] (by decide) (fun _ => rfl) (fun hg => va_runV (As := [.int (xs ((v23_4 + 1)).toNatClampNeg), .int (xs ((v23_4 + 2)).toNatClampNeg)]) (rest := []) ⟨hx, hb, hml, hown, hts⟩ (c_X5_dependsOn l D cI q8 n2_0 n2_1 n2_2 n2_3 n2_4 n2_5 n2_6 n2_7 n2_8 n2_9 n2_10 mr_23 mc_23 me_23 mw_23 mh_23 mn_23 mu_23 ms_23 mt_23 md_23 mz_23 mi_23 mk_23 mo_23 mj_23 ml_23 _ (xs ((v23_4 + 1)).toNatClampNeg) (xs ((v23_4 + 2)).toNatClampNeg) hq50) (cwV 2 hts gL_law_X5_dependsOn rfl rfl rfl (by decide +kernel) ⟨Nat.le_of_ble_eq_true rfl, Nat.le_of_ble_eq_true rfl⟩) ⟨PW.blind, va_recv hK hP (ci := 5) (q0 := 15) rfl rfl, fun U hU hW => ⟨rfl, hg U hU hW⟩⟩ rfl rfl hl.1 rfl (lv_room ((by exact Nat.le_of_ble_eq_true rfl))) dL_law_425 ⟨(by show (kc + 2) + 0 ≤ 601024; omega), (by show (ks + 12) + 0 ≤ 7293034; omega)⟩) (fun r50 u H locs hw hP hD hS => ?_)
  obtain ⟨u50_0, rfl⟩ : ∃ z, z = u := ⟨_, rfl⟩
  obtain ⟨hw, hb50⟩ := hw
  rw [hw] at he
  try dsimp only at he
  replace hp := hp r50 u50_0 hw
  have hP : va_P D vwCl (W_L cI cJ q0 n1_0 n1_1 n1_2 n1_3 n1_4 n1_5 n1_6 n1_7 n1_8 n1_9 n1_10 n1_11 n1_12 n1_13 q8 n2_0 n2_1 n2_2 n2_3 n2_4 n2_5 n2_6 n2_7 n2_8 n2_9 n2_10 o0 xr_23 xt_23 gn_23 gu_23 gb_23 ga_23 lc_23 lk_23 ln_23 lt_23 ll_23 lr_23 tw_23 tn_23 tt_23 mr_23 mc_23 me_23 mw_23 u50_0 mn_23 mu_23 ms_23 mt_23 md_23 mz_23 mi_23 mk_23 mo_23 mj_23 ml_23 u47_0) H := hP
  have hD : va_D A (W_L cI cJ q0 n1_0 n1_1 n1_2 n1_3 n1_4 n1_5 n1_6 n1_7 n1_8 n1_9 n1_10 n1_11 n1_12 n1_13 q8 n2_0 n2_1 n2_2 n2_3 n2_4 n2_5 n2_6 n2_7 n2_8 n2_9 n2_10 o0 xr_23 xt_23 gn_23 gu_23 gb_23 ga_23 lc_23 lk_23 ln_23 lt_23 ll_23 lr_23 tw_23 tn_23 tt_23 mr_23 mc_23 me_23 mw_23 u50_0 mn_23 mu_23 ms_23 mt_23 md_23 mz_23 mi_23 mk_23 mo_23 mj_23 ml_23 u47_0) := hD
  refine lv_istore (lv' := [(6, .int r50), (5, .int r47), (4, .int v23_4), (3, .ref o0), (2, .ref q8), (1, .ref q0), (0, .ref b0)]) hx hb dL_law_428 hl (by decide) rfl (fun ls hl => ?_)
  refine lv_aload_n hx hb dL_law_430 rfl (lv_at hl 4 rfl) ?_
  refine k_calli (S := Unit) (wc := (W_X5 cI q8 n2_0 n2_1 n2_2 n2_3 n2_4 n2_5 n2_6 n2_7 n2_8 n2_9 n2_10 mr_23 mc_23 me_23 mw_23 u50_0 mn_23 mu_23 ms_23 mt_23 md_23 mz_23 mi_23 mk_23 mo_23 mj_23 ml_23)) (wr := (W_O cI cJ q0 n1_0 n1_1 n1_2 n1_3 n1_4 n1_5 n1_6 n1_7 n1_8 n1_9 n1_10 n1_11 n1_12 n1_13 o0 xr_23 xt_23 gn_23 gu_23 gb_23 ga_23 lc_23 lk_23 ln_23 lt_23 ll_23 lr_23 tw_23 tn_23 tt_23 u47_0)) (w1 := fun u => (W_X5 cI q8 n2_0 n2_1 n2_2 n2_3 n2_4 n2_5 n2_6 n2_7 n2_8 n2_9 n2_10 mr_23 mc_23 me_23 mw_23 u50_0 mn_23 mu_23 ms_23 mt_23 md_23 mz_23 mi_23 mk_23 mo_23 mj_23 ml_23)) (fun u => (W_L cI cJ q0 n1_0 n1_1 n1_2 n1_3 n1_4 n1_5 n1_6 n1_7 n1_8 n1_9 n1_10 n1_11 n1_12 n1_13 q8 n2_0 n2_1 n2_2 n2_3 n2_4 n2_5 n2_6 n2_7 n2_8 n2_9 n2_10 o0 xr_23 xt_23 gn_23 gu_23 gb_23 ga_23 lc_23 lk_23 ln_23 lt_23 ll_23 lr_23 tw_23 tn_23 tt_23 mr_23 mc_23 me_23 mw_23 u50_0 mn_23 mu_23 ms_23 mt_23 md_23 mz_23 mi_23 mk_23 mo_23 mj_23 ml_23 u47_0)) hP (hK.sub [0] rfl) hD hN hS hA [15, 16, 17, 18, 19, 20, 21, 22, 23, 24, 25, 26] [0, 1, 2, 3, 4, 5, 6, 7, 8, 9, 10, 11, 12, 13, 14, 27] rfl rfl (by decide) (by decide) (by decide) [0, 1, 2, 3, 4, 5, 6, 7, 8, 9, 10, 11, 12, 13, 14, 16, 17, 18, 19, 20, 21, 22, 23, 24, 25, 26, 27, 15] (by decide) (fun _ => rfl) (fun hg => va_runV (As := []) (rest := []) ⟨hx, hb, hml, hown, hts⟩ (c_X5_thrown l D cI q8 n2_0 n2_1 n2_2 n2_3 n2_4 n2_5 n2_6 n2_7 n2_8 n2_9 n2_10 mr_23 mc_23 me_23 mw_23 u50_0 mn_23 mu_23 ms_23 mt_23 md_23 mz_23 mi_23 mk_23 mo_23 mj_23 ml_23 _ ) (cwV 0 hts gL_law_X5_thrown rfl rfl rfl (by decide +kernel) ⟨Nat.le_of_ble_eq_true rfl, Nat.le_of_ble_eq_true rfl⟩) ⟨PW.blind, va_recv hK hP (ci := 5) (q0 := 15) rfl rfl, fun U hU hW => ⟨rfl, hg U hU hW⟩⟩ rfl rfl hl.1 rfl (lv_room ((by exact Nat.le_of_ble_eq_true rfl))) dL_law_431 ⟨(by show (kc + 2) + 0 ≤ 601024; omega), (by show (ks + 12) + 0 ≤ 7293034; omega)⟩) (fun r51 u H locs hw hP hD hS => ?_)
  subst hw
  refine lv_iload hx hb dL_law_434 (lv_at hl 1 rfl) ?_
  refine lv_icmp_eq (tgt := 441) hx hb dL_law_436 (by decide) (fun c52 => ?_) (fun c52 => ?_)
  · replace hp := hp.1 c52
    replace he := he.trans (if_pos c52)
    refine lv_iload hx hb dL_law_441 (lv_at hl 1 rfl) ?_
    refine lv_if_ne (tgt := 465) hx hb dL_law_443 (by decide) (fun c53 => ?_) (fun c53 => ?_)
    · replace hp := hp.2 c53
      replace he := he.trans (if_neg c53)
      refine lv_goto (tgt := 1579) hx hb dL_law_465 (by decide) ?_
      refine lv_iinc (v := (v23_4 + 3)) (lv' := [(4, .int (v23_4 + 3)), (6, .int r50), (5, .int r47), (3, .ref o0), (2, .ref q8), (1, .ref q0), (0, .ref b0)]) hx hb dL_law_1579 hl (k := 2) rfl rfl (by decide) rfl (fun ls hl => ?_)
      refine lv_goto (tgt := 23) hx hb dL_law_1582 (by decide) ?_
      refine W.widen (k := kc + 3) (n := ks + 18) (by omega) (by omega) ?_
      exact ih _ _ _ _ _ _ _ _ _ _ _ _ _ _ _ _ _ _ _ _ _ _ _ _ _ _ _ _ _ _ _ _ _ (kc + 3) (ks + 18) (by omega) (by omega) hp he _ _ hP hD hS _ (lv_sub hl [0, 3, 4, 5, 6] rfl)
    · replace hp := hp.1 c53
      replace he := he.trans (if_pos c53)
      refine lv_aload_n hx hb dL_law_446 rfl (lv_at hl 3 rfl) ?_
      refine lv_iconst (v := 0) hx hb dL_law_447 (by decide) ?_
      refine va_lald hx hb hK hP 27 1 rfl rfl (by unfold vp_in; decide) dL_law_448 ?_
      refine lv_iload hx hb dL_law_449 (lv_at hl 0 rfl) ?_
      obtain ⟨j55, hJ55⟩ : ∃ z : Int64, z = (if r50 = 0 then (0 : Int64) else (1 : Int64)) := ⟨_, rfl⟩
      rw [← hJ55] at he
      try dsimp only at he
      have hpJ55 := hp.1
      replace hp := hp.2 _  hJ55.symm
      have kont55 : ∀ (H : Heap) (locs : List Loc), va_P D vwCl (W_L cI cJ q0 n1_0 n1_1 n1_2 n1_3 n1_4 n1_5 n1_6 n1_7 n1_8 n1_9 n1_10 n1_11 n1_12 n1_13 q8 n2_0 n2_1 n2_2 n2_3 n2_4 n2_5 n2_6 n2_7 n2_8 n2_9 n2_10 o0 xr_23 xt_23 gn_23 gu_23 gb_23 ga_23 lc_23 lk_23 ln_23 lt_23 ll_23 lr_23 tw_23 tn_23 tt_23 mr_23 mc_23 me_23 mw_23 u50_0 mn_23 mu_23 ms_23 mt_23 md_23 mz_23 mi_23 mk_23 mo_23 mj_23 ml_23 u47_0) H → va_D A (W_L cI cJ q0 n1_0 n1_1 n1_2 n1_3 n1_4 n1_5 n1_6 n1_7 n1_8 n1_9 n1_10 n1_11 n1_12 n1_13 q8 n2_0 n2_1 n2_2 n2_3 n2_4 n2_5 n2_6 n2_7 n2_8 n2_9 n2_10 o0 xr_23 xt_23 gn_23 gu_23 gb_23 ga_23 lc_23 lk_23 ln_23 lt_23 ll_23 lr_23 tw_23 tn_23 tt_23 mr_23 mc_23 me_23 mw_23 u50_0 mn_23 mu_23 ms_23 mt_23 md_23 mz_23 mi_23 mk_23 mo_23 mj_23 ml_23 u47_0) → va_S A s.heap H locs → ∀ ls : Array Slot, lv_has ls 7 [(4, .int v23_4), (3, .ref o0), (2, .ref q8), (1, .ref q0), (0, .ref b0)] → W p l e room_1 s m #[Value.ref b0] below meth c H locs (kc + 2) (ks + 12) (lw_Z below #[Value.ref b0] s) (F0 m 459 ls [.long j55, .long (u47_0 (0 : Int32).toNatClampNeg)]) := by
        intro H locs hP hD hS ls hl
        refine W.lcmp hx hb dL_law_459 ?_
        refine lv_if_eq (tgt := 465) hx hb dL_law_460 (by decide) (fun c57 => ?_) (fun c57 => ?_)
        · replace hp := hp.1 c57
          replace he := he.trans (if_pos c57)
          refine lv_goto (tgt := 1579) hx hb dL_law_465 (by decide) ?_
          refine lv_iinc (v := (v23_4 + 3)) (lv' := [(4, .int (v23_4 + 3)), (3, .ref o0), (2, .ref q8), (1, .ref q0), (0, .ref b0)]) hx hb dL_law_1579 hl (k := 0) rfl rfl (by decide) rfl (fun ls hl => ?_)
          refine lv_goto (tgt := 23) hx hb dL_law_1582 (by decide) ?_
          refine W.widen (k := kc + 3) (n := ks + 18) (by omega) (by omega) ?_
          exact ih _ _ _ _ _ _ _ _ _ _ _ _ _ _ _ _ _ _ _ _ _ _ _ _ _ _ _ _ _ _ _ _ _ (kc + 3) (ks + 18) (by omega) (by omega) hp he _ _ hP hD hS _ (lv_sub hl [0, 1, 2, 3, 4] rfl)
        · replace hp := hp.2 c57
          replace he := he.trans (if_neg c57)
          refine lv_iconst (v := 0) hx hb dL_law_463 (by decide) ?_
          exact absurd he (by decide)
      replace he := hJ55
      replace hp := hpJ55
      refine lv_if_eq (tgt := 458) hx hb dL_law_451 (by decide) (fun c56 => ?_) (fun c56 => ?_)
      · replace hp := hp.1 c56
        replace he := he.trans (if_pos c56)
        refine lv_lconst (v := 0) hx hb dL_law_458 rfl ?_
        subst he
        exact kont55 _ _ hP hD hS _ (lv_sub hl [2, 3, 4, 5, 6] rfl)
      · replace hp := hp.2 c56
        replace he := he.trans (if_neg c56)
        refine lv_lconst (v := 1) hx hb dL_law_454 rfl ?_
        refine lv_goto (tgt := 459) hx hb dL_law_455 (by decide) ?_
        subst he
        exact kont55 _ _ hP hD hS _ (lv_sub hl [2, 3, 4, 5, 6] rfl)
  · replace hp := hp.2 c52
    replace he := he.trans (if_neg c52)
    refine lv_iconst (v := 0) hx hb dL_law_439 (by decide) ?_
    exact absurd he (by decide)
set_option maxHeartbeats 8000000 in
set_option maxRecDepth 100000 in
theorem law_c9 {p : Program} {l : Launch} {e : Env} {s : State} {m : MethodId} {below : List Frame} {meth : Method} {c : Code} {D : va_G} {cI cJ : ClassId} {b0 L : Nat} {xs : Nat → Int32} {A : Nat → Prop} {q0 n1_0 n1_1 n1_2 n1_3 n1_4 n1_5 n1_6 n1_7 n1_8 n1_9 n1_10 n1_11 n1_12 n1_13 q8 n2_0 n2_1 n2_2 n2_3 n2_4 n2_5 n2_6 n2_7 n2_8 n2_9 n2_10 o0 : Nat} (hx : p.tables.exec = Jvm.exec) (hb : c.code = code) (hr : meth.sig.returnType = ret) (hml : c.maxLocals = 7) (hown : s.vm.findClass RL = some m.cls) (hts : ∀ w ∈ wsL_law, w.before #[Value.ref b0] s = true) (hX : va_X b0 L xs s s.heap) (hbl : b0 < s.heap.size) (hlocks : meth.locks = false) (hbA : ¬ A b0) (hA : ∀ q : Nat, s.heap.size ≤ q → A q) (hAle : ∀ q : Nat, A q → s.heap.size ≤ q) (hN : NB s) (hXB : XB A s s.heap) (hst : l.stackTraces = false) (hK : va_K D vwCl [(cI, .int), (cJ, .long)] s) {n : Nat} (ih : ∀ (v23_4 : Int32) (xr_23 : Int32) (xt_23 : Int32) (gn_23 : AA) (gu_23 : AA) (gb_23 : AA) (ga_23 : AA) (lc_23 : Int32) (lk_23 : AA) (ln_23 : AA) (lt_23 : AA) (ll_23 : AA) (lr_23 : AA) (tw_23 : Int32) (tn_23 : AA) (tt_23 : AA) (mr_23 : Int32) (mc_23 : Int32) (me_23 : Int32) (mw_23 : Int32) (mh_23 : Int32) (mn_23 : AA) (mu_23 : AA) (ms_23 : AA) (mt_23 : AA) (md_23 : AA) (mz_23 : AA) (mi_23 : AA) (mk_23 : AA) (mo_23 : AA) (mj_23 : AA) (ml_23 : AA) (oo_23 : LA) (kc ks : Nat), kc + n * 3 + 64 ≤ 601024 → ks + n * 18 + 64 ≤ 7293034 → p_L_law_L23 xs L n v23_4 xr_23 xt_23 gn_23 gu_23 gb_23 ga_23 lc_23 lk_23 ln_23 lt_23 ll_23 lr_23 tw_23 tn_23 tt_23 mr_23 mc_23 me_23 mw_23 mh_23 mn_23 mu_23 ms_23 mt_23 md_23 mz_23 mi_23 mk_23 mo_23 mj_23 ml_23 oo_23 → (1 : Int32) = f_L_law_L23 xs L n v23_4 xr_23 xt_23 gn_23 gu_23 gb_23 ga_23 lc_23 lk_23 ln_23 lt_23 ll_23 lr_23 tw_23 tn_23 tt_23 mr_23 mc_23 me_23 mw_23 mh_23 mn_23 mu_23 ms_23 mt_23 md_23 mz_23 mi_23 mk_23 mo_23 mj_23 ml_23 oo_23 → ∀ (H : Heap) (locs : List Loc), va_P D vwCl (W_L cI cJ q0 n1_0 n1_1 n1_2 n1_3 n1_4 n1_5 n1_6 n1_7 n1_8 n1_9 n1_10 n1_11 n1_12 n1_13 q8 n2_0 n2_1 n2_2 n2_3 n2_4 n2_5 n2_6 n2_7 n2_8 n2_9 n2_10 o0 xr_23 xt_23 gn_23 gu_23 gb_23 ga_23 lc_23 lk_23 ln_23 lt_23 ll_23 lr_23 tw_23 tn_23 tt_23 mr_23 mc_23 me_23 mw_23 mh_23 mn_23 mu_23 ms_23 mt_23 md_23 mz_23 mi_23 mk_23 mo_23 mj_23 ml_23 oo_23) H → va_D A (W_L cI cJ q0 n1_0 n1_1 n1_2 n1_3 n1_4 n1_5 n1_6 n1_7 n1_8 n1_9 n1_10 n1_11 n1_12 n1_13 q8 n2_0 n2_1 n2_2 n2_3 n2_4 n2_5 n2_6 n2_7 n2_8 n2_9 n2_10 o0 xr_23 xt_23 gn_23 gu_23 gb_23 ga_23 lc_23 lk_23 ln_23 lt_23 ll_23 lr_23 tw_23 tn_23 tt_23 mr_23 mc_23 me_23 mw_23 mh_23 mn_23 mu_23 ms_23 mt_23 md_23 mz_23 mi_23 mk_23 mo_23 mj_23 ml_23 oo_23) → va_S A s.heap H locs → ∀ ls : Array Slot, lv_has ls 7 [(4, .int v23_4), (3, .ref o0), (2, .ref q8), (1, .ref q0), (0, .ref b0)] → W p l e room_1 s m #[Value.ref b0] below meth c H locs kc ks (lw_Z below #[Value.ref b0] s) (F0 m 23 ls [])) (v23_4 : Int32) (xr_23 : Int32) (xt_23 : Int32) (gn_23 : AA) (gu_23 : AA) (gb_23 : AA) (ga_23 : AA) (lc_23 : Int32) (lk_23 : AA) (ln_23 : AA) (lt_23 : AA) (ll_23 : AA) (lr_23 : AA) (tw_23 : Int32) (tn_23 : AA) (tt_23 : AA) (mr_23 : Int32) (mc_23 : Int32) (me_23 : Int32) (mw_23 : Int32) (mh_23 : Int32) (mn_23 : AA) (mu_23 : AA) (ms_23 : AA) (mt_23 : AA) (md_23 : AA) (mz_23 : AA) (mi_23 : AA) (mk_23 : AA) (mo_23 : AA) (mj_23 : AA) (ml_23 : AA) (oo_23 : LA) (kc ks : Nat) (hkc : kc + (n + 1) * 3 + 64 ≤ 601024) (hks : ks + (n + 1) * 18 + 64 ≤ 7293034) (hp : p_L_c9 (p_L_law_L23 xs L n) xs L v23_4 xr_23 xt_23 gn_23 gu_23 gb_23 ga_23 lc_23 lk_23 ln_23 lt_23 ll_23 lr_23 tw_23 tn_23 tt_23 mr_23 mc_23 me_23 mw_23 mn_23 mu_23 ms_23 mt_23 md_23 mz_23 mi_23 mk_23 mo_23 mj_23 ml_23 oo_23) (he : (1 : Int32) = f_L_c9 (f_L_law_L23 xs L n) xs v23_4 xr_23 xt_23 gn_23 gu_23 gb_23 ga_23 lc_23 lk_23 ln_23 lt_23 ll_23 lr_23 tw_23 tn_23 tt_23 mr_23 mc_23 me_23 mw_23 mn_23 mu_23 ms_23 mt_23 md_23 mz_23 mi_23 mk_23 mo_23 mj_23 ml_23 oo_23) (H : Heap) (locs : List Loc) (hP : va_P D vwCl (W_L cI cJ q0 n1_0 n1_1 n1_2 n1_3 n1_4 n1_5 n1_6 n1_7 n1_8 n1_9 n1_10 n1_11 n1_12 n1_13 q8 n2_0 n2_1 n2_2 n2_3 n2_4 n2_5 n2_6 n2_7 n2_8 n2_9 n2_10 o0 xr_23 xt_23 gn_23 gu_23 gb_23 ga_23 lc_23 lk_23 ln_23 lt_23 ll_23 lr_23 tw_23 tn_23 tt_23 mr_23 mc_23 me_23 mw_23 mh_23 mn_23 mu_23 ms_23 mt_23 md_23 mz_23 mi_23 mk_23 mo_23 mj_23 ml_23 oo_23) H) (hD : va_D A (W_L cI cJ q0 n1_0 n1_1 n1_2 n1_3 n1_4 n1_5 n1_6 n1_7 n1_8 n1_9 n1_10 n1_11 n1_12 n1_13 q8 n2_0 n2_1 n2_2 n2_3 n2_4 n2_5 n2_6 n2_7 n2_8 n2_9 n2_10 o0 xr_23 xt_23 gn_23 gu_23 gb_23 ga_23 lc_23 lk_23 ln_23 lt_23 ll_23 lr_23 tw_23 tn_23 tt_23 mr_23 mc_23 me_23 mw_23 mh_23 mn_23 mu_23 ms_23 mt_23 md_23 mz_23 mi_23 mk_23 mo_23 mj_23 ml_23 oo_23)) (hS : va_S A s.heap H locs) (ls : Array Slot) (hl : lv_has ls 7 [(4, .int v23_4), (3, .ref o0), (2, .ref q8), (1, .ref q0), (0, .ref b0)]) : W p l e room_1 s m #[Value.ref b0] below meth c H locs kc ks (lw_Z below #[Value.ref b0] s) (F0 m 705 ls []) := by
  replace he := he.trans (f_L_c9.eq_1 ..)
  replace hp := Eq.mp (p_L_c9.eq_1 ..) hp
  refine lv_aload_n hx hb dL_law_705 rfl (lv_at hl 3 rfl) ?_
  refine lv_aload_n hx hb dL_law_706 rfl (lv_at hl 4 rfl) ?_
  refine lv_iload hx hb dL_law_707 (lv_at hl 0 rfl) ?_
  refine lv_iconst (v := 1) hx hb dL_law_709 (by decide) ?_
  refine lv_iadd hx hb dL_law_710 ?_
  have h97 := hp.1
  replace hp := hp.2
  refine va_sld hx hb hX hbl hbA hS h97 dL_law_711 ?_
  refine lv_aload_n hx hb dL_law_712 rfl (lv_at hl 1 rfl) ?_
  have hq98 := hp.1
  replace hp := hp.2
  refine k_ycalli (S := LA) (wc := (W_O cI cJ q0 n1_0 n1_1 n1_2 n1_3 n1_4 n1_5 n1_6 n1_7 n1_8 n1_9 n1_10 n1_11 n1_12 n1_13 o0 xr_23 xt_23 gn_23 gu_23 gb_23 ga_23 lc_23 lk_23 ln_23 lt_23 ll_23 lr_23 tw_23 tn_23 tt_23 oo_23)) (wr := (W_X5 cI q8 n2_0 n2_1 n2_2 n2_3 n2_4 n2_5 n2_6 n2_7 n2_8 n2_9 n2_10 mr_23 mc_23 me_23 mw_23 mh_23 mn_23 mu_23 ms_23 mt_23 md_23 mz_23 mi_23 mk_23 mo_23 mj_23 ml_23)) (w1 := fun u => (W_O cI cJ q0 n1_0 n1_1 n1_2 n1_3 n1_4 n1_5 n1_6 n1_7 n1_8 n1_9 n1_10 n1_11 n1_12 n1_13 o0 xr_23 xt_23 gn_23 gu_23 gb_23 ga_23 lc_23 lk_23 ln_23 lt_23 ll_23 lr_23 tw_23 tn_23 tt_23 u)) (fun u => (W_L cI cJ q0 n1_0 n1_1 n1_2 n1_3 n1_4 n1_5 n1_6 n1_7 n1_8 n1_9 n1_10 n1_11 n1_12 n1_13 q8 n2_0 n2_1 n2_2 n2_3 n2_4 n2_5 n2_6 n2_7 n2_8 n2_9 n2_10 o0 xr_23 xt_23 gn_23 gu_23 gb_23 ga_23 lc_23 lk_23 ln_23 lt_23 ll_23 lr_23 tw_23 tn_23 tt_23 mr_23 mc_23 me_23 mw_23 mh_23 mn_23 mu_23 ms_23 mt_23 md_23 mz_23 mi_23 mk_23 mo_23 mj_23 ml_23 u)) hP hK hD hN hXB hS hA [0, 1, 2, 3, 4, 5, 6, 7, 8, 9, 10, 11, 12, 13, 14, 27] [15, 16, 17, 18, 19, 20, 21, 22, 23, 24, 25, 26] rfl rfl (by decide) (by decide) (by decide) [12, 13, 14, 15, 16, 17, 18, 19, 20, 21, 22, 23, 24, 25, 26, 0, 1, 2, 3, 4, 5, 6, 7, 8, 9, 10, 11, 27] (by decide) (fun _ => rfl) (fun hg => vx_runSW (As := [.ref q0, .int (xs ((v23_4 + 1)).toNatClampNeg), .ref o0]) (rest := []) ⟨hx, hb, hml, hown, hts⟩ (c_L_state l D cI cJ q0 n1_0 n1_1 n1_2 n1_3 n1_4 n1_5 n1_6 n1_7 n1_8 n1_9 n1_10 n1_11 n1_12 n1_13 o0 xr_23 xt_23 gn_23 gu_23 gb_23 ga_23 lc_23 lk_23 ln_23 lt_23 ll_23 lr_23 tw_23 tn_23 tt_23 oo_23 _ (xs ((v23_4 + 1)).toNatClampNeg) hq98 hst) (vx_cwSW 3 hts gL_law_L_state rfl rfl rfl (by decide +kernel) ⟨Nat.le_of_ble_eq_true rfl, Nat.le_of_ble_eq_true rfl⟩) ⟨PX.blind, fun U hU hW => ⟨rfl, hg U hU hW⟩⟩ rfl rfl hl.1 rfl (lv_room ((by exact Nat.le_of_ble_eq_true rfl))) dL_law_713 ⟨(by show kc + 1 ≤ 601024; omega), (by show ks + 6 ≤ 7293034; omega)⟩) (fun r98 u H locs hw hP hD hS => ?_)
  obtain ⟨u98_0, rfl⟩ : ∃ z, z = u := ⟨_, rfl⟩
  rw [hw] at he
  try dsimp only at he
  replace hp := hp r98 u98_0 hw
  have hP : va_P D vwCl (W_L cI cJ q0 n1_0 n1_1 n1_2 n1_3 n1_4 n1_5 n1_6 n1_7 n1_8 n1_9 n1_10 n1_11 n1_12 n1_13 q8 n2_0 n2_1 n2_2 n2_3 n2_4 n2_5 n2_6 n2_7 n2_8 n2_9 n2_10 o0 xr_23 xt_23 gn_23 gu_23 gb_23 ga_23 lc_23 lk_23 ln_23 lt_23 ll_23 lr_23 tw_23 tn_23 tt_23 mr_23 mc_23 me_23 mw_23 mh_23 mn_23 mu_23 ms_23 mt_23 md_23 mz_23 mi_23 mk_23 mo_23 mj_23 ml_23 u98_0) H := hP
  have hD : va_D A (W_L cI cJ q0 n1_0 n1_1 n1_2 n1_3 n1_4 n1_5 n1_6 n1_7 n1_8 n1_9 n1_10 n1_11 n1_12 n1_13 q8 n2_0 n2_1 n2_2 n2_3 n2_4 n2_5 n2_6 n2_7 n2_8 n2_9 n2_10 o0 xr_23 xt_23 gn_23 gu_23 gb_23 ga_23 lc_23 lk_23 ln_23 lt_23 ll_23 lr_23 tw_23 tn_23 tt_23 mr_23 mc_23 me_23 mw_23 mh_23 mn_23 mu_23 ms_23 mt_23 md_23 mz_23 mi_23 mk_23 mo_23 mj_23 ml_23 u98_0) := hD
  refine lv_istore (lv' := [(5, .int r98), (4, .int v23_4), (3, .ref o0), (2, .ref q8), (1, .ref q0), (0, .ref b0)]) hx hb dL_law_716 hl (by decide) rfl (fun ls hl => ?_)
  refine lv_aload_n hx hb dL_law_718 rfl (lv_at hl 3 rfl) ?_
  refine lv_aload_n hx hb dL_law_719 rfl (lv_at hl 5 rfl) ?_
  refine lv_iload hx hb dL_law_720 (lv_at hl 1 rfl) ?_
  refine lv_iconst (v := 1) hx hb dL_law_722 (by decide) ?_
  refine lv_iadd hx hb dL_law_723 ?_
  have h99 := hp.1
  replace hp := hp.2
  refine va_sld hx hb hX hbl hbA hS h99 dL_law_724 ?_
  have hq100 := hp.1
  replace hp := hp.2
  refine k_calli (S := Int32) (wc := (W_X5 cI q8 n2_0 n2_1 n2_2 n2_3 n2_4 n2_5 n2_6 n2_7 n2_8 n2_9 n2_10 mr_23 mc_23 me_23 mw_23 mh_23 mn_23 mu_23 ms_23 mt_23 md_23 mz_23 mi_23 mk_23 mo_23 mj_23 ml_23)) (wr := (W_O cI cJ q0 n1_0 n1_1 n1_2 n1_3 n1_4 n1_5 n1_6 n1_7 n1_8 n1_9 n1_10 n1_11 n1_12 n1_13 o0 xr_23 xt_23 gn_23 gu_23 gb_23 ga_23 lc_23 lk_23 ln_23 lt_23 ll_23 lr_23 tw_23 tn_23 tt_23 u98_0)) (w1 := fun u => (W_X5 cI q8 n2_0 n2_1 n2_2 n2_3 n2_4 n2_5 n2_6 n2_7 n2_8 n2_9 n2_10 mr_23 mc_23 me_23 mw_23 u mn_23 mu_23 ms_23 mt_23 md_23 mz_23 mi_23 mk_23 mo_23 mj_23 ml_23)) (fun u => (W_L cI cJ q0 n1_0 n1_1 n1_2 n1_3 n1_4 n1_5 n1_6 n1_7 n1_8 n1_9 n1_10 n1_11 n1_12 n1_13 q8 n2_0 n2_1 n2_2 n2_3 n2_4 n2_5 n2_6 n2_7 n2_8 n2_9 n2_10 o0 xr_23 xt_23 gn_23 gu_23 gb_23 ga_23 lc_23 lk_23 ln_23 lt_23 ll_23 lr_23 tw_23 tn_23 tt_23 mr_23 mc_23 me_23 mw_23 u mn_23 mu_23 ms_23 mt_23 md_23 mz_23 mi_23 mk_23 mo_23 mj_23 ml_23 u98_0)) hP (hK.sub [0] rfl) hD hN hS hA [15, 16, 17, 18, 19, 20, 21, 22, 23, 24, 25, 26] [0, 1, 2, 3, 4, 5, 6, 7, 8, 9, 10, 11, 12, 13, 14, 27] rfl rfl (by decide) (by decide) (by decide) [0, 1, 2, 3, 4, 5, 6, 7, 8, 9, 10, 11, 12, 13, 14, 16, 17, 18, 19, 20, 21, 22, 23, 24, 25, 26, 27, 15] (by decide) (fun _ => rfl) (fun hg => va_runV (As := [.int (xs ((v23_4 + 1)).toNatClampNeg)]) (rest := []) ⟨hx, hb, hml, hown, hts⟩ (c_X5_state l D cI q8 n2_0 n2_1 n2_2 n2_3 n2_4 n2_5 n2_6 n2_7 n2_8 n2_9 n2_10 mr_23 mc_23 me_23 mw_23 mh_23 mn_23 mu_23 ms_23 mt_23 md_23 mz_23 mi_23 mk_23 mo_23 mj_23 ml_23 _ (xs ((v23_4 + 1)).toNatClampNeg) hq100) (cwV 1 hts gL_law_X5_state rfl rfl rfl (by decide +kernel) ⟨Nat.le_of_ble_eq_true rfl, Nat.le_of_ble_eq_true rfl⟩) ⟨PW.blind, va_recv hK hP (ci := 5) (q0 := 15) rfl rfl, fun U hU hW => ⟨rfl, hg U hU hW⟩⟩ rfl rfl hl.1 rfl (lv_room ((by exact Nat.le_of_ble_eq_true rfl))) dL_law_725 ⟨(by show (kc + 1) + 0 ≤ 601024; omega), (by show (ks + 6) + 0 ≤ 7293034; omega)⟩) (fun r100 u H locs hw hP hD hS => ?_)
  obtain ⟨u100_0, rfl⟩ : ∃ z, z = u := ⟨_, rfl⟩
  rw [hw] at he
  try dsimp only at he
  replace hp := hp r100 u100_0 hw
  have hP : va_P D vwCl (W_L cI cJ q0 n1_0 n1_1 n1_2 n1_3 n1_4 n1_5 n1_6 n1_7 n1_8 n1_9 n1_10 n1_11 n1_12 n1_13 q8 n2_0 n2_1 n2_2 n2_3 n2_4 n2_5 n2_6 n2_7 n2_8 n2_9 n2_10 o0 xr_23 xt_23 gn_23 gu_23 gb_23 ga_23 lc_23 lk_23 ln_23 lt_23 ll_23 lr_23 tw_23 tn_23 tt_23 mr_23 mc_23 me_23 mw_23 u100_0 mn_23 mu_23 ms_23 mt_23 md_23 mz_23 mi_23 mk_23 mo_23 mj_23 ml_23 u98_0) H := hP
  have hD : va_D A (W_L cI cJ q0 n1_0 n1_1 n1_2 n1_3 n1_4 n1_5 n1_6 n1_7 n1_8 n1_9 n1_10 n1_11 n1_12 n1_13 q8 n2_0 n2_1 n2_2 n2_3 n2_4 n2_5 n2_6 n2_7 n2_8 n2_9 n2_10 o0 xr_23 xt_23 gn_23 gu_23 gb_23 ga_23 lc_23 lk_23 ln_23 lt_23 ll_23 lr_23 tw_23 tn_23 tt_23 mr_23 mc_23 me_23 mw_23 u100_0 mn_23 mu_23 ms_23 mt_23 md_23 mz_23 mi_23 mk_23 mo_23 mj_23 ml_23 u98_0) := hD
  refine lv_istore (lv' := [(6, .int r100), (5, .int r98), (4, .int v23_4), (3, .ref o0), (2, .ref q8), (1, .ref q0), (0, .ref b0)]) hx hb dL_law_728 hl (by decide) rfl (fun ls hl => ?_)
  refine lv_aload_n hx hb dL_law_730 rfl (lv_at hl 4 rfl) ?_
  refine k_calli (S := Unit) (wc := (W_X5 cI q8 n2_0 n2_1 n2_2 n2_3 n2_4 n2_5 n2_6 n2_7 n2_8 n2_9 n2_10 mr_23 mc_23 me_23 mw_23 u100_0 mn_23 mu_23 ms_23 mt_23 md_23 mz_23 mi_23 mk_23 mo_23 mj_23 ml_23)) (wr := (W_O cI cJ q0 n1_0 n1_1 n1_2 n1_3 n1_4 n1_5 n1_6 n1_7 n1_8 n1_9 n1_10 n1_11 n1_12 n1_13 o0 xr_23 xt_23 gn_23 gu_23 gb_23 ga_23 lc_23 lk_23 ln_23 lt_23 ll_23 lr_23 tw_23 tn_23 tt_23 u98_0)) (w1 := fun u => (W_X5 cI q8 n2_0 n2_1 n2_2 n2_3 n2_4 n2_5 n2_6 n2_7 n2_8 n2_9 n2_10 mr_23 mc_23 me_23 mw_23 u100_0 mn_23 mu_23 ms_23 mt_23 md_23 mz_23 mi_23 mk_23 mo_23 mj_23 ml_23)) (fun u => (W_L cI cJ q0 n1_0 n1_1 n1_2 n1_3 n1_4 n1_5 n1_6 n1_7 n1_8 n1_9 n1_10 n1_11 n1_12 n1_13 q8 n2_0 n2_1 n2_2 n2_3 n2_4 n2_5 n2_6 n2_7 n2_8 n2_9 n2_10 o0 xr_23 xt_23 gn_23 gu_23 gb_23 ga_23 lc_23 lk_23 ln_23 lt_23 ll_23 lr_23 tw_23 tn_23 tt_23 mr_23 mc_23 me_23 mw_23 u100_0 mn_23 mu_23 ms_23 mt_23 md_23 mz_23 mi_23 mk_23 mo_23 mj_23 ml_23 u98_0)) hP (hK.sub [0] rfl) hD hN hS hA [15, 16, 17, 18, 19, 20, 21, 22, 23, 24, 25, 26] [0, 1, 2, 3, 4, 5, 6, 7, 8, 9, 10, 11, 12, 13, 14, 27] rfl rfl (by decide) (by decide) (by decide) [0, 1, 2, 3, 4, 5, 6, 7, 8, 9, 10, 11, 12, 13, 14, 16, 17, 18, 19, 20, 21, 22, 23, 24, 25, 26, 27, 15] (by decide) (fun _ => rfl) (fun hg => va_runV (As := []) (rest := []) ⟨hx, hb, hml, hown, hts⟩ (c_X5_thrown l D cI q8 n2_0 n2_1 n2_2 n2_3 n2_4 n2_5 n2_6 n2_7 n2_8 n2_9 n2_10 mr_23 mc_23 me_23 mw_23 u100_0 mn_23 mu_23 ms_23 mt_23 md_23 mz_23 mi_23 mk_23 mo_23 mj_23 ml_23 _ ) (cwV 0 hts gL_law_X5_thrown rfl rfl rfl (by decide +kernel) ⟨Nat.le_of_ble_eq_true rfl, Nat.le_of_ble_eq_true rfl⟩) ⟨PW.blind, va_recv hK hP (ci := 5) (q0 := 15) rfl rfl, fun U hU hW => ⟨rfl, hg U hU hW⟩⟩ rfl rfl hl.1 rfl (lv_room ((by exact Nat.le_of_ble_eq_true rfl))) dL_law_731 ⟨(by show (kc + 1) + 0 ≤ 601024; omega), (by show (ks + 6) + 0 ≤ 7293034; omega)⟩) (fun r101 u H locs hw hP hD hS => ?_)
  subst hw
  refine lv_iload hx hb dL_law_734 (lv_at hl 1 rfl) ?_
  refine lv_icmp_eq (tgt := 741) hx hb dL_law_736 (by decide) (fun c102 => ?_) (fun c102 => ?_)
  · replace hp := hp.1 c102
    replace he := he.trans (if_pos c102)
    refine lv_iload hx hb dL_law_741 (lv_at hl 1 rfl) ?_
    refine lv_if_ne (tgt := 758) hx hb dL_law_743 (by decide) (fun c103 => ?_) (fun c103 => ?_)
    · replace hp := hp.2 c103
      replace he := he.trans (if_neg c103)
      refine lv_goto (tgt := 1579) hx hb dL_law_758 (by decide) ?_
      refine lv_iinc (v := (v23_4 + 3)) (lv' := [(4, .int (v23_4 + 3)), (6, .int r100), (5, .int r98), (3, .ref o0), (2, .ref q8), (1, .ref q0), (0, .ref b0)]) hx hb dL_law_1579 hl (k := 2) rfl rfl (by decide) rfl (fun ls hl => ?_)
      refine lv_goto (tgt := 23) hx hb dL_law_1582 (by decide) ?_
      refine W.widen (k := kc + 3) (n := ks + 18) (by omega) (by omega) ?_
      exact ih _ _ _ _ _ _ _ _ _ _ _ _ _ _ _ _ _ _ _ _ _ _ _ _ _ _ _ _ _ _ _ _ _ (kc + 3) (ks + 18) (by omega) (by omega) hp he _ _ hP hD hS _ (lv_sub hl [0, 3, 4, 5, 6] rfl)
    · replace hp := hp.1 c103
      replace he := he.trans (if_pos c103)
      refine lv_aload_n hx hb dL_law_746 rfl (lv_at hl 3 rfl) ?_
      refine lv_iconst (v := 0) hx hb dL_law_747 (by decide) ?_
      refine va_lald hx hb hK hP 27 1 rfl rfl (by unfold vp_in; decide) dL_law_748 ?_
      refine lv_iload hx hb dL_law_749 (lv_at hl 0 rfl) ?_
      refine lv_i2l (v := (r100).toInt64) hx hb dL_law_751 rfl ?_
      refine W.lcmp hx hb dL_law_752 ?_
      refine lv_if_eq (tgt := 758) hx hb dL_law_753 (by decide) (fun c105 => ?_) (fun c105 => ?_)
      · replace hp := hp.1 c105
        replace he := he.trans (if_pos c105)
        refine lv_goto (tgt := 1579) hx hb dL_law_758 (by decide) ?_
        refine lv_iinc (v := (v23_4 + 3)) (lv' := [(4, .int (v23_4 + 3)), (6, .int r100), (5, .int r98), (3, .ref o0), (2, .ref q8), (1, .ref q0), (0, .ref b0)]) hx hb dL_law_1579 hl (k := 2) rfl rfl (by decide) rfl (fun ls hl => ?_)
        refine lv_goto (tgt := 23) hx hb dL_law_1582 (by decide) ?_
        refine W.widen (k := kc + 3) (n := ks + 18) (by omega) (by omega) ?_
        exact ih _ _ _ _ _ _ _ _ _ _ _ _ _ _ _ _ _ _ _ _ _ _ _ _ _ _ _ _ _ _ _ _ _ (kc + 3) (ks + 18) (by omega) (by omega) hp he _ _ hP hD hS _ (lv_sub hl [0, 3, 4, 5, 6] rfl)
      · replace hp := hp.2 c105
        replace he := he.trans (if_neg c105)
        refine lv_iconst (v := 0) hx hb dL_law_756 (by decide) ?_
        exact absurd he (by decide)
  · replace hp := hp.2 c102
    replace he := he.trans (if_neg c102)
    refine lv_iconst (v := 0) hx hb dL_law_739 (by decide) ?_
    exact absurd he (by decide)
set_option maxHeartbeats 8000000 in
set_option maxRecDepth 100000 in
theorem law_c15 {p : Program} {l : Launch} {e : Env} {s : State} {m : MethodId} {below : List Frame} {meth : Method} {c : Code} {D : va_G} {cI cJ : ClassId} {b0 L : Nat} {xs : Nat → Int32} {A : Nat → Prop} {q0 n1_0 n1_1 n1_2 n1_3 n1_4 n1_5 n1_6 n1_7 n1_8 n1_9 n1_10 n1_11 n1_12 n1_13 q8 n2_0 n2_1 n2_2 n2_3 n2_4 n2_5 n2_6 n2_7 n2_8 n2_9 n2_10 o0 : Nat} (hx : p.tables.exec = Jvm.exec) (hb : c.code = code) (hr : meth.sig.returnType = ret) (hml : c.maxLocals = 7) (hown : s.vm.findClass RL = some m.cls) (hts : ∀ w ∈ wsL_law, w.before #[Value.ref b0] s = true) (hX : va_X b0 L xs s s.heap) (hbl : b0 < s.heap.size) (hlocks : meth.locks = false) (hbA : ¬ A b0) (hA : ∀ q : Nat, s.heap.size ≤ q → A q) (hAle : ∀ q : Nat, A q → s.heap.size ≤ q) (hN : NB s) (hXB : XB A s s.heap) (hst : l.stackTraces = false) (hK : va_K D vwCl [(cI, .int), (cJ, .long)] s) {n : Nat} (ih : ∀ (v23_4 : Int32) (xr_23 : Int32) (xt_23 : Int32) (gn_23 : AA) (gu_23 : AA) (gb_23 : AA) (ga_23 : AA) (lc_23 : Int32) (lk_23 : AA) (ln_23 : AA) (lt_23 : AA) (ll_23 : AA) (lr_23 : AA) (tw_23 : Int32) (tn_23 : AA) (tt_23 : AA) (mr_23 : Int32) (mc_23 : Int32) (me_23 : Int32) (mw_23 : Int32) (mh_23 : Int32) (mn_23 : AA) (mu_23 : AA) (ms_23 : AA) (mt_23 : AA) (md_23 : AA) (mz_23 : AA) (mi_23 : AA) (mk_23 : AA) (mo_23 : AA) (mj_23 : AA) (ml_23 : AA) (oo_23 : LA) (kc ks : Nat), kc + n * 3 + 64 ≤ 601024 → ks + n * 18 + 64 ≤ 7293034 → p_L_law_L23 xs L n v23_4 xr_23 xt_23 gn_23 gu_23 gb_23 ga_23 lc_23 lk_23 ln_23 lt_23 ll_23 lr_23 tw_23 tn_23 tt_23 mr_23 mc_23 me_23 mw_23 mh_23 mn_23 mu_23 ms_23 mt_23 md_23 mz_23 mi_23 mk_23 mo_23 mj_23 ml_23 oo_23 → (1 : Int32) = f_L_law_L23 xs L n v23_4 xr_23 xt_23 gn_23 gu_23 gb_23 ga_23 lc_23 lk_23 ln_23 lt_23 ll_23 lr_23 tw_23 tn_23 tt_23 mr_23 mc_23 me_23 mw_23 mh_23 mn_23 mu_23 ms_23 mt_23 md_23 mz_23 mi_23 mk_23 mo_23 mj_23 ml_23 oo_23 → ∀ (H : Heap) (locs : List Loc), va_P D vwCl (W_L cI cJ q0 n1_0 n1_1 n1_2 n1_3 n1_4 n1_5 n1_6 n1_7 n1_8 n1_9 n1_10 n1_11 n1_12 n1_13 q8 n2_0 n2_1 n2_2 n2_3 n2_4 n2_5 n2_6 n2_7 n2_8 n2_9 n2_10 o0 xr_23 xt_23 gn_23 gu_23 gb_23 ga_23 lc_23 lk_23 ln_23 lt_23 ll_23 lr_23 tw_23 tn_23 tt_23 mr_23 mc_23 me_23 mw_23 mh_23 mn_23 mu_23 ms_23 mt_23 md_23 mz_23 mi_23 mk_23 mo_23 mj_23 ml_23 oo_23) H → va_D A (W_L cI cJ q0 n1_0 n1_1 n1_2 n1_3 n1_4 n1_5 n1_6 n1_7 n1_8 n1_9 n1_10 n1_11 n1_12 n1_13 q8 n2_0 n2_1 n2_2 n2_3 n2_4 n2_5 n2_6 n2_7 n2_8 n2_9 n2_10 o0 xr_23 xt_23 gn_23 gu_23 gb_23 ga_23 lc_23 lk_23 ln_23 lt_23 ll_23 lr_23 tw_23 tn_23 tt_23 mr_23 mc_23 me_23 mw_23 mh_23 mn_23 mu_23 ms_23 mt_23 md_23 mz_23 mi_23 mk_23 mo_23 mj_23 ml_23 oo_23) → va_S A s.heap H locs → ∀ ls : Array Slot, lv_has ls 7 [(4, .int v23_4), (3, .ref o0), (2, .ref q8), (1, .ref q0), (0, .ref b0)] → W p l e room_1 s m #[Value.ref b0] below meth c H locs kc ks (lw_Z below #[Value.ref b0] s) (F0 m 23 ls [])) (v23_4 : Int32) (xr_23 : Int32) (xt_23 : Int32) (gn_23 : AA) (gu_23 : AA) (gb_23 : AA) (ga_23 : AA) (lc_23 : Int32) (lk_23 : AA) (ln_23 : AA) (lt_23 : AA) (ll_23 : AA) (lr_23 : AA) (tw_23 : Int32) (tn_23 : AA) (tt_23 : AA) (mr_23 : Int32) (mc_23 : Int32) (me_23 : Int32) (mw_23 : Int32) (mh_23 : Int32) (mn_23 : AA) (mu_23 : AA) (ms_23 : AA) (mt_23 : AA) (md_23 : AA) (mz_23 : AA) (mi_23 : AA) (mk_23 : AA) (mo_23 : AA) (mj_23 : AA) (ml_23 : AA) (oo_23 : LA) (kc ks : Nat) (hkc : kc + (n + 1) * 3 + 64 ≤ 601024) (hks : ks + (n + 1) * 18 + 64 ≤ 7293034) (hp : p_L_c15 (p_L_law_L23 xs L n) xs L v23_4 xr_23 xt_23 gn_23 gu_23 gb_23 ga_23 lc_23 lk_23 ln_23 lt_23 ll_23 lr_23 tw_23 tn_23 tt_23 mr_23 mc_23 me_23 mw_23 mn_23 mu_23 ms_23 mt_23 md_23 mz_23 mi_23 mk_23 mo_23 mj_23 ml_23 oo_23) (he : (1 : Int32) = f_L_c15 (f_L_law_L23 xs L n) xs v23_4 xr_23 xt_23 gn_23 gu_23 gb_23 ga_23 lc_23 lk_23 ln_23 lt_23 ll_23 lr_23 tw_23 tn_23 tt_23 mr_23 mc_23 me_23 mw_23 mn_23 mu_23 ms_23 mt_23 md_23 mz_23 mi_23 mk_23 mo_23 mj_23 ml_23 oo_23) (H : Heap) (locs : List Loc) (hP : va_P D vwCl (W_L cI cJ q0 n1_0 n1_1 n1_2 n1_3 n1_4 n1_5 n1_6 n1_7 n1_8 n1_9 n1_10 n1_11 n1_12 n1_13 q8 n2_0 n2_1 n2_2 n2_3 n2_4 n2_5 n2_6 n2_7 n2_8 n2_9 n2_10 o0 xr_23 xt_23 gn_23 gu_23 gb_23 ga_23 lc_23 lk_23 ln_23 lt_23 ll_23 lr_23 tw_23 tn_23 tt_23 mr_23 mc_23 me_23 mw_23 mh_23 mn_23 mu_23 ms_23 mt_23 md_23 mz_23 mi_23 mk_23 mo_23 mj_23 ml_23 oo_23) H) (hD : va_D A (W_L cI cJ q0 n1_0 n1_1 n1_2 n1_3 n1_4 n1_5 n1_6 n1_7 n1_8 n1_9 n1_10 n1_11 n1_12 n1_13 q8 n2_0 n2_1 n2_2 n2_3 n2_4 n2_5 n2_6 n2_7 n2_8 n2_9 n2_10 o0 xr_23 xt_23 gn_23 gu_23 gb_23 ga_23 lc_23 lk_23 ln_23 lt_23 ll_23 lr_23 tw_23 tn_23 tt_23 mr_23 mc_23 me_23 mw_23 mh_23 mn_23 mu_23 ms_23 mt_23 md_23 mz_23 mi_23 mk_23 mo_23 mj_23 ml_23 oo_23)) (hS : va_S A s.heap H locs) (ls : Array Slot) (hl : lv_has ls 7 [(4, .int v23_4), (3, .ref o0), (2, .ref q8), (1, .ref q0), (0, .ref b0)]) : W p l e room_1 s m #[Value.ref b0] below meth c H locs kc ks (lw_Z below #[Value.ref b0] s) (F0 m 1010 ls []) := by
  replace he := he.trans (f_L_c15.eq_1 ..)
  replace hp := Eq.mp (p_L_c15.eq_1 ..) hp
  refine lv_aload_n hx hb dL_law_1010 rfl (lv_at hl 3 rfl) ?_
  refine lv_aload_n hx hb dL_law_1011 rfl (lv_at hl 4 rfl) ?_
  refine lv_iload hx hb dL_law_1012 (lv_at hl 0 rfl) ?_
  refine lv_iconst (v := 1) hx hb dL_law_1014 (by decide) ?_
  refine lv_iadd hx hb dL_law_1015 ?_
  have h147 := hp.1
  replace hp := hp.2
  refine va_sld hx hb hX hbl hbA hS h147 dL_law_1016 ?_
  refine lv_aload_n hx hb dL_law_1017 rfl (lv_at hl 1 rfl) ?_
  have hq148 := hp.1
  replace hp := hp.2
  refine k_ycalli (S := LA) (wc := (W_O cI cJ q0 n1_0 n1_1 n1_2 n1_3 n1_4 n1_5 n1_6 n1_7 n1_8 n1_9 n1_10 n1_11 n1_12 n1_13 o0 xr_23 xt_23 gn_23 gu_23 gb_23 ga_23 lc_23 lk_23 ln_23 lt_23 ll_23 lr_23 tw_23 tn_23 tt_23 oo_23)) (wr := (W_X5 cI q8 n2_0 n2_1 n2_2 n2_3 n2_4 n2_5 n2_6 n2_7 n2_8 n2_9 n2_10 mr_23 mc_23 me_23 mw_23 mh_23 mn_23 mu_23 ms_23 mt_23 md_23 mz_23 mi_23 mk_23 mo_23 mj_23 ml_23)) (w1 := fun u => (W_O cI cJ q0 n1_0 n1_1 n1_2 n1_3 n1_4 n1_5 n1_6 n1_7 n1_8 n1_9 n1_10 n1_11 n1_12 n1_13 o0 xr_23 xt_23 gn_23 gu_23 gb_23 ga_23 lc_23 lk_23 ln_23 lt_23 ll_23 lr_23 tw_23 tn_23 tt_23 u)) (fun u => (W_L cI cJ q0 n1_0 n1_1 n1_2 n1_3 n1_4 n1_5 n1_6 n1_7 n1_8 n1_9 n1_10 n1_11 n1_12 n1_13 q8 n2_0 n2_1 n2_2 n2_3 n2_4 n2_5 n2_6 n2_7 n2_8 n2_9 n2_10 o0 xr_23 xt_23 gn_23 gu_23 gb_23 ga_23 lc_23 lk_23 ln_23 lt_23 ll_23 lr_23 tw_23 tn_23 tt_23 mr_23 mc_23 me_23 mw_23 mh_23 mn_23 mu_23 ms_23 mt_23 md_23 mz_23 mi_23 mk_23 mo_23 mj_23 ml_23 u)) hP hK hD hN hXB hS hA [0, 1, 2, 3, 4, 5, 6, 7, 8, 9, 10, 11, 12, 13, 14, 27] [15, 16, 17, 18, 19, 20, 21, 22, 23, 24, 25, 26] rfl rfl (by decide) (by decide) (by decide) [12, 13, 14, 15, 16, 17, 18, 19, 20, 21, 22, 23, 24, 25, 26, 0, 1, 2, 3, 4, 5, 6, 7, 8, 9, 10, 11, 27] (by decide) (fun _ => rfl) (fun hg => vx_runSW (As := [.ref q0, .int (xs ((v23_4 + 1)).toNatClampNeg), .ref o0]) (rest := []) ⟨hx, hb, hml, hown, hts⟩ (c_L_eventTime l D cI cJ q0 n1_0 n1_1 n1_2 n1_3 n1_4 n1_5 n1_6 n1_7 n1_8 n1_9 n1_10 n1_11 n1_12 n1_13 o0 xr_23 xt_23 gn_23 gu_23 gb_23 ga_23 lc_23 lk_23 ln_23 lt_23 ll_23 lr_23 tw_23 tn_23 tt_23 oo_23 _ (xs ((v23_4 + 1)).toNatClampNeg) hq148 hst) (vx_cwSW 3 hts gL_law_L_eventTime rfl rfl rfl (by decide +kernel) ⟨Nat.le_of_ble_eq_true rfl, Nat.le_of_ble_eq_true rfl⟩) ⟨PX.blind, fun U hU hW => ⟨rfl, hg U hU hW⟩⟩ rfl rfl hl.1 rfl (lv_room ((by exact Nat.le_of_ble_eq_true rfl))) dL_law_1018 ⟨(by show kc + 1 ≤ 601024; omega), (by show ks + 6 ≤ 7293034; omega)⟩) (fun r148 u H locs hw hP hD hS => ?_)
  obtain ⟨u148_0, rfl⟩ : ∃ z, z = u := ⟨_, rfl⟩
  rw [hw] at he
  try dsimp only at he
  replace hp := hp r148 u148_0 hw
  have hP : va_P D vwCl (W_L cI cJ q0 n1_0 n1_1 n1_2 n1_3 n1_4 n1_5 n1_6 n1_7 n1_8 n1_9 n1_10 n1_11 n1_12 n1_13 q8 n2_0 n2_1 n2_2 n2_3 n2_4 n2_5 n2_6 n2_7 n2_8 n2_9 n2_10 o0 xr_23 xt_23 gn_23 gu_23 gb_23 ga_23 lc_23 lk_23 ln_23 lt_23 ll_23 lr_23 tw_23 tn_23 tt_23 mr_23 mc_23 me_23 mw_23 mh_23 mn_23 mu_23 ms_23 mt_23 md_23 mz_23 mi_23 mk_23 mo_23 mj_23 ml_23 u148_0) H := hP
  have hD : va_D A (W_L cI cJ q0 n1_0 n1_1 n1_2 n1_3 n1_4 n1_5 n1_6 n1_7 n1_8 n1_9 n1_10 n1_11 n1_12 n1_13 q8 n2_0 n2_1 n2_2 n2_3 n2_4 n2_5 n2_6 n2_7 n2_8 n2_9 n2_10 o0 xr_23 xt_23 gn_23 gu_23 gb_23 ga_23 lc_23 lk_23 ln_23 lt_23 ll_23 lr_23 tw_23 tn_23 tt_23 mr_23 mc_23 me_23 mw_23 mh_23 mn_23 mu_23 ms_23 mt_23 md_23 mz_23 mi_23 mk_23 mo_23 mj_23 ml_23 u148_0) := hD
  refine lv_istore (lv' := [(5, .int r148), (4, .int v23_4), (3, .ref o0), (2, .ref q8), (1, .ref q0), (0, .ref b0)]) hx hb dL_law_1021 hl (by decide) rfl (fun ls hl => ?_)
  refine lv_aload_n hx hb dL_law_1023 rfl (lv_at hl 3 rfl) ?_
  refine lv_aload_n hx hb dL_law_1024 rfl (lv_at hl 5 rfl) ?_
  refine lv_iload hx hb dL_law_1025 (lv_at hl 1 rfl) ?_
  refine lv_iconst (v := 1) hx hb dL_law_1027 (by decide) ?_
  refine lv_iadd hx hb dL_law_1028 ?_
  have h149 := hp.1
  replace hp := hp.2
  refine va_sld hx hb hX hbl hbA hS h149 dL_law_1029 ?_
  have hq150 := hp.1
  replace hp := hp.2
  refine k_calli (S := Int32) (wc := (W_X5 cI q8 n2_0 n2_1 n2_2 n2_3 n2_4 n2_5 n2_6 n2_7 n2_8 n2_9 n2_10 mr_23 mc_23 me_23 mw_23 mh_23 mn_23 mu_23 ms_23 mt_23 md_23 mz_23 mi_23 mk_23 mo_23 mj_23 ml_23)) (wr := (W_O cI cJ q0 n1_0 n1_1 n1_2 n1_3 n1_4 n1_5 n1_6 n1_7 n1_8 n1_9 n1_10 n1_11 n1_12 n1_13 o0 xr_23 xt_23 gn_23 gu_23 gb_23 ga_23 lc_23 lk_23 ln_23 lt_23 ll_23 lr_23 tw_23 tn_23 tt_23 u148_0)) (w1 := fun u => (W_X5 cI q8 n2_0 n2_1 n2_2 n2_3 n2_4 n2_5 n2_6 n2_7 n2_8 n2_9 n2_10 mr_23 mc_23 me_23 mw_23 u mn_23 mu_23 ms_23 mt_23 md_23 mz_23 mi_23 mk_23 mo_23 mj_23 ml_23)) (fun u => (W_L cI cJ q0 n1_0 n1_1 n1_2 n1_3 n1_4 n1_5 n1_6 n1_7 n1_8 n1_9 n1_10 n1_11 n1_12 n1_13 q8 n2_0 n2_1 n2_2 n2_3 n2_4 n2_5 n2_6 n2_7 n2_8 n2_9 n2_10 o0 xr_23 xt_23 gn_23 gu_23 gb_23 ga_23 lc_23 lk_23 ln_23 lt_23 ll_23 lr_23 tw_23 tn_23 tt_23 mr_23 mc_23 me_23 mw_23 u mn_23 mu_23 ms_23 mt_23 md_23 mz_23 mi_23 mk_23 mo_23 mj_23 ml_23 u148_0)) hP (hK.sub [0] rfl) hD hN hS hA [15, 16, 17, 18, 19, 20, 21, 22, 23, 24, 25, 26] [0, 1, 2, 3, 4, 5, 6, 7, 8, 9, 10, 11, 12, 13, 14, 27] rfl rfl (by decide) (by decide) (by decide) [0, 1, 2, 3, 4, 5, 6, 7, 8, 9, 10, 11, 12, 13, 14, 16, 17, 18, 19, 20, 21, 22, 23, 24, 25, 26, 27, 15] (by decide) (fun _ => rfl) (fun hg => va_runV (As := [.int (xs ((v23_4 + 1)).toNatClampNeg)]) (rest := []) ⟨hx, hb, hml, hown, hts⟩ (c_X5_eventTime l D cI q8 n2_0 n2_1 n2_2 n2_3 n2_4 n2_5 n2_6 n2_7 n2_8 n2_9 n2_10 mr_23 mc_23 me_23 mw_23 mh_23 mn_23 mu_23 ms_23 mt_23 md_23 mz_23 mi_23 mk_23 mo_23 mj_23 ml_23 _ (xs ((v23_4 + 1)).toNatClampNeg) hq150) (cwV 1 hts gL_law_X5_eventTime rfl rfl rfl (by decide +kernel) ⟨Nat.le_of_ble_eq_true rfl, Nat.le_of_ble_eq_true rfl⟩) ⟨PW.blind, va_recv hK hP (ci := 5) (q0 := 15) rfl rfl, fun U hU hW => ⟨rfl, hg U hU hW⟩⟩ rfl rfl hl.1 rfl (lv_room ((by exact Nat.le_of_ble_eq_true rfl))) dL_law_1030 ⟨(by show (kc + 1) + 0 ≤ 601024; omega), (by show (ks + 6) + 0 ≤ 7293034; omega)⟩) (fun r150 u H locs hw hP hD hS => ?_)
  obtain ⟨u150_0, rfl⟩ : ∃ z, z = u := ⟨_, rfl⟩
  rw [hw] at he
  try dsimp only at he
  replace hp := hp r150 u150_0 hw
  have hP : va_P D vwCl (W_L cI cJ q0 n1_0 n1_1 n1_2 n1_3 n1_4 n1_5 n1_6 n1_7 n1_8 n1_9 n1_10 n1_11 n1_12 n1_13 q8 n2_0 n2_1 n2_2 n2_3 n2_4 n2_5 n2_6 n2_7 n2_8 n2_9 n2_10 o0 xr_23 xt_23 gn_23 gu_23 gb_23 ga_23 lc_23 lk_23 ln_23 lt_23 ll_23 lr_23 tw_23 tn_23 tt_23 mr_23 mc_23 me_23 mw_23 u150_0 mn_23 mu_23 ms_23 mt_23 md_23 mz_23 mi_23 mk_23 mo_23 mj_23 ml_23 u148_0) H := hP
  have hD : va_D A (W_L cI cJ q0 n1_0 n1_1 n1_2 n1_3 n1_4 n1_5 n1_6 n1_7 n1_8 n1_9 n1_10 n1_11 n1_12 n1_13 q8 n2_0 n2_1 n2_2 n2_3 n2_4 n2_5 n2_6 n2_7 n2_8 n2_9 n2_10 o0 xr_23 xt_23 gn_23 gu_23 gb_23 ga_23 lc_23 lk_23 ln_23 lt_23 ll_23 lr_23 tw_23 tn_23 tt_23 mr_23 mc_23 me_23 mw_23 u150_0 mn_23 mu_23 ms_23 mt_23 md_23 mz_23 mi_23 mk_23 mo_23 mj_23 ml_23 u148_0) := hD
  refine lv_istore (lv' := [(6, .int r150), (5, .int r148), (4, .int v23_4), (3, .ref o0), (2, .ref q8), (1, .ref q0), (0, .ref b0)]) hx hb dL_law_1033 hl (by decide) rfl (fun ls hl => ?_)
  refine lv_aload_n hx hb dL_law_1035 rfl (lv_at hl 4 rfl) ?_
  refine k_calli (S := Unit) (wc := (W_X5 cI q8 n2_0 n2_1 n2_2 n2_3 n2_4 n2_5 n2_6 n2_7 n2_8 n2_9 n2_10 mr_23 mc_23 me_23 mw_23 u150_0 mn_23 mu_23 ms_23 mt_23 md_23 mz_23 mi_23 mk_23 mo_23 mj_23 ml_23)) (wr := (W_O cI cJ q0 n1_0 n1_1 n1_2 n1_3 n1_4 n1_5 n1_6 n1_7 n1_8 n1_9 n1_10 n1_11 n1_12 n1_13 o0 xr_23 xt_23 gn_23 gu_23 gb_23 ga_23 lc_23 lk_23 ln_23 lt_23 ll_23 lr_23 tw_23 tn_23 tt_23 u148_0)) (w1 := fun u => (W_X5 cI q8 n2_0 n2_1 n2_2 n2_3 n2_4 n2_5 n2_6 n2_7 n2_8 n2_9 n2_10 mr_23 mc_23 me_23 mw_23 u150_0 mn_23 mu_23 ms_23 mt_23 md_23 mz_23 mi_23 mk_23 mo_23 mj_23 ml_23)) (fun u => (W_L cI cJ q0 n1_0 n1_1 n1_2 n1_3 n1_4 n1_5 n1_6 n1_7 n1_8 n1_9 n1_10 n1_11 n1_12 n1_13 q8 n2_0 n2_1 n2_2 n2_3 n2_4 n2_5 n2_6 n2_7 n2_8 n2_9 n2_10 o0 xr_23 xt_23 gn_23 gu_23 gb_23 ga_23 lc_23 lk_23 ln_23 lt_23 ll_23 lr_23 tw_23 tn_23 tt_23 mr_23 mc_23 me_23 mw_23 u150_0 mn_23 mu_23 ms_23 mt_23 md_23 mz_23 mi_23 mk_23 mo_23 mj_23 ml_23 u148_0)) hP (hK.sub [0] rfl) hD hN hS hA [15, 16, 17, 18, 19, 20, 21, 22, 23, 24, 25, 26] [0, 1, 2, 3, 4, 5, 6, 7, 8, 9, 10, 11, 12, 13, 14, 27] rfl rfl (by decide) (by decide) (by decide) [0, 1, 2, 3, 4, 5, 6, 7, 8, 9, 10, 11, 12, 13, 14, 16, 17, 18, 19, 20, 21, 22, 23, 24, 25, 26, 27, 15] (by decide) (fun _ => rfl) (fun hg => va_runV (As := []) (rest := []) ⟨hx, hb, hml, hown, hts⟩ (c_X5_thrown l D cI q8 n2_0 n2_1 n2_2 n2_3 n2_4 n2_5 n2_6 n2_7 n2_8 n2_9 n2_10 mr_23 mc_23 me_23 mw_23 u150_0 mn_23 mu_23 ms_23 mt_23 md_23 mz_23 mi_23 mk_23 mo_23 mj_23 ml_23 _ ) (cwV 0 hts gL_law_X5_thrown rfl rfl rfl (by decide +kernel) ⟨Nat.le_of_ble_eq_true rfl, Nat.le_of_ble_eq_true rfl⟩) ⟨PW.blind, va_recv hK hP (ci := 5) (q0 := 15) rfl rfl, fun U hU hW => ⟨rfl, hg U hU hW⟩⟩ rfl rfl hl.1 rfl (lv_room ((by exact Nat.le_of_ble_eq_true rfl))) dL_law_1036 ⟨(by show (kc + 1) + 0 ≤ 601024; omega), (by show (ks + 6) + 0 ≤ 7293034; omega)⟩) (fun r151 u H locs hw hP hD hS => ?_)
  subst hw
  refine lv_iload hx hb dL_law_1039 (lv_at hl 1 rfl) ?_
  refine lv_icmp_eq (tgt := 1046) hx hb dL_law_1041 (by decide) (fun c152 => ?_) (fun c152 => ?_)
  · replace hp := hp.1 c152
    replace he := he.trans (if_pos c152)
    refine lv_iload hx hb dL_law_1046 (lv_at hl 1 rfl) ?_
    refine lv_if_ne (tgt := 1063) hx hb dL_law_1048 (by decide) (fun c153 => ?_) (fun c153 => ?_)
    · replace hp := hp.2 c153
      replace he := he.trans (if_neg c153)
      refine lv_goto (tgt := 1579) hx hb dL_law_1063 (by decide) ?_
      refine lv_iinc (v := (v23_4 + 3)) (lv' := [(4, .int (v23_4 + 3)), (6, .int r150), (5, .int r148), (3, .ref o0), (2, .ref q8), (1, .ref q0), (0, .ref b0)]) hx hb dL_law_1579 hl (k := 2) rfl rfl (by decide) rfl (fun ls hl => ?_)
      refine lv_goto (tgt := 23) hx hb dL_law_1582 (by decide) ?_
      refine W.widen (k := kc + 3) (n := ks + 18) (by omega) (by omega) ?_
      exact ih _ _ _ _ _ _ _ _ _ _ _ _ _ _ _ _ _ _ _ _ _ _ _ _ _ _ _ _ _ _ _ _ _ (kc + 3) (ks + 18) (by omega) (by omega) hp he _ _ hP hD hS _ (lv_sub hl [0, 3, 4, 5, 6] rfl)
    · replace hp := hp.1 c153
      replace he := he.trans (if_pos c153)
      refine lv_aload_n hx hb dL_law_1051 rfl (lv_at hl 3 rfl) ?_
      refine lv_iconst (v := 0) hx hb dL_law_1052 (by decide) ?_
      refine va_lald hx hb hK hP 27 1 rfl rfl (by unfold vp_in; decide) dL_law_1053 ?_
      refine lv_iload hx hb dL_law_1054 (lv_at hl 0 rfl) ?_
      refine lv_i2l (v := (r150).toInt64) hx hb dL_law_1056 rfl ?_
      refine W.lcmp hx hb dL_law_1057 ?_
      refine lv_if_eq (tgt := 1063) hx hb dL_law_1058 (by decide) (fun c155 => ?_) (fun c155 => ?_)
      · replace hp := hp.1 c155
        replace he := he.trans (if_pos c155)
        refine lv_goto (tgt := 1579) hx hb dL_law_1063 (by decide) ?_
        refine lv_iinc (v := (v23_4 + 3)) (lv' := [(4, .int (v23_4 + 3)), (6, .int r150), (5, .int r148), (3, .ref o0), (2, .ref q8), (1, .ref q0), (0, .ref b0)]) hx hb dL_law_1579 hl (k := 2) rfl rfl (by decide) rfl (fun ls hl => ?_)
        refine lv_goto (tgt := 23) hx hb dL_law_1582 (by decide) ?_
        refine W.widen (k := kc + 3) (n := ks + 18) (by omega) (by omega) ?_
        exact ih _ _ _ _ _ _ _ _ _ _ _ _ _ _ _ _ _ _ _ _ _ _ _ _ _ _ _ _ _ _ _ _ _ (kc + 3) (ks + 18) (by omega) (by omega) hp he _ _ hP hD hS _ (lv_sub hl [0, 3, 4, 5, 6] rfl)
      · replace hp := hp.2 c155
        replace he := he.trans (if_neg c155)
        refine lv_iconst (v := 0) hx hb dL_law_1061 (by decide) ?_
        exact absurd he (by decide)
  · replace hp := hp.2 c152
    replace he := he.trans (if_neg c152)
    refine lv_iconst (v := 0) hx hb dL_law_1044 (by decide) ?_
    exact absurd he (by decide)
set_option maxHeartbeats 8000000 in
set_option maxRecDepth 100000 in
theorem law_c21 {p : Program} {l : Launch} {e : Env} {s : State} {m : MethodId} {below : List Frame} {meth : Method} {c : Code} {D : va_G} {cI cJ : ClassId} {b0 L : Nat} {xs : Nat → Int32} {A : Nat → Prop} {q0 n1_0 n1_1 n1_2 n1_3 n1_4 n1_5 n1_6 n1_7 n1_8 n1_9 n1_10 n1_11 n1_12 n1_13 q8 n2_0 n2_1 n2_2 n2_3 n2_4 n2_5 n2_6 n2_7 n2_8 n2_9 n2_10 o0 : Nat} (hx : p.tables.exec = Jvm.exec) (hb : c.code = code) (hr : meth.sig.returnType = ret) (hml : c.maxLocals = 7) (hown : s.vm.findClass RL = some m.cls) (hts : ∀ w ∈ wsL_law, w.before #[Value.ref b0] s = true) (hX : va_X b0 L xs s s.heap) (hbl : b0 < s.heap.size) (hlocks : meth.locks = false) (hbA : ¬ A b0) (hA : ∀ q : Nat, s.heap.size ≤ q → A q) (hAle : ∀ q : Nat, A q → s.heap.size ≤ q) (hN : NB s) (hXB : XB A s s.heap) (hst : l.stackTraces = false) (hK : va_K D vwCl [(cI, .int), (cJ, .long)] s) {n : Nat} (ih : ∀ (v23_4 : Int32) (xr_23 : Int32) (xt_23 : Int32) (gn_23 : AA) (gu_23 : AA) (gb_23 : AA) (ga_23 : AA) (lc_23 : Int32) (lk_23 : AA) (ln_23 : AA) (lt_23 : AA) (ll_23 : AA) (lr_23 : AA) (tw_23 : Int32) (tn_23 : AA) (tt_23 : AA) (mr_23 : Int32) (mc_23 : Int32) (me_23 : Int32) (mw_23 : Int32) (mh_23 : Int32) (mn_23 : AA) (mu_23 : AA) (ms_23 : AA) (mt_23 : AA) (md_23 : AA) (mz_23 : AA) (mi_23 : AA) (mk_23 : AA) (mo_23 : AA) (mj_23 : AA) (ml_23 : AA) (oo_23 : LA) (kc ks : Nat), kc + n * 3 + 64 ≤ 601024 → ks + n * 18 + 64 ≤ 7293034 → p_L_law_L23 xs L n v23_4 xr_23 xt_23 gn_23 gu_23 gb_23 ga_23 lc_23 lk_23 ln_23 lt_23 ll_23 lr_23 tw_23 tn_23 tt_23 mr_23 mc_23 me_23 mw_23 mh_23 mn_23 mu_23 ms_23 mt_23 md_23 mz_23 mi_23 mk_23 mo_23 mj_23 ml_23 oo_23 → (1 : Int32) = f_L_law_L23 xs L n v23_4 xr_23 xt_23 gn_23 gu_23 gb_23 ga_23 lc_23 lk_23 ln_23 lt_23 ll_23 lr_23 tw_23 tn_23 tt_23 mr_23 mc_23 me_23 mw_23 mh_23 mn_23 mu_23 ms_23 mt_23 md_23 mz_23 mi_23 mk_23 mo_23 mj_23 ml_23 oo_23 → ∀ (H : Heap) (locs : List Loc), va_P D vwCl (W_L cI cJ q0 n1_0 n1_1 n1_2 n1_3 n1_4 n1_5 n1_6 n1_7 n1_8 n1_9 n1_10 n1_11 n1_12 n1_13 q8 n2_0 n2_1 n2_2 n2_3 n2_4 n2_5 n2_6 n2_7 n2_8 n2_9 n2_10 o0 xr_23 xt_23 gn_23 gu_23 gb_23 ga_23 lc_23 lk_23 ln_23 lt_23 ll_23 lr_23 tw_23 tn_23 tt_23 mr_23 mc_23 me_23 mw_23 mh_23 mn_23 mu_23 ms_23 mt_23 md_23 mz_23 mi_23 mk_23 mo_23 mj_23 ml_23 oo_23) H → va_D A (W_L cI cJ q0 n1_0 n1_1 n1_2 n1_3 n1_4 n1_5 n1_6 n1_7 n1_8 n1_9 n1_10 n1_11 n1_12 n1_13 q8 n2_0 n2_1 n2_2 n2_3 n2_4 n2_5 n2_6 n2_7 n2_8 n2_9 n2_10 o0 xr_23 xt_23 gn_23 gu_23 gb_23 ga_23 lc_23 lk_23 ln_23 lt_23 ll_23 lr_23 tw_23 tn_23 tt_23 mr_23 mc_23 me_23 mw_23 mh_23 mn_23 mu_23 ms_23 mt_23 md_23 mz_23 mi_23 mk_23 mo_23 mj_23 ml_23 oo_23) → va_S A s.heap H locs → ∀ ls : Array Slot, lv_has ls 7 [(4, .int v23_4), (3, .ref o0), (2, .ref q8), (1, .ref q0), (0, .ref b0)] → W p l e room_1 s m #[Value.ref b0] below meth c H locs kc ks (lw_Z below #[Value.ref b0] s) (F0 m 23 ls [])) (v23_4 : Int32) (xr_23 : Int32) (xt_23 : Int32) (gn_23 : AA) (gu_23 : AA) (gb_23 : AA) (ga_23 : AA) (lc_23 : Int32) (lk_23 : AA) (ln_23 : AA) (lt_23 : AA) (ll_23 : AA) (lr_23 : AA) (tw_23 : Int32) (tn_23 : AA) (tt_23 : AA) (mr_23 : Int32) (mc_23 : Int32) (me_23 : Int32) (mw_23 : Int32) (mh_23 : Int32) (mn_23 : AA) (mu_23 : AA) (ms_23 : AA) (mt_23 : AA) (md_23 : AA) (mz_23 : AA) (mi_23 : AA) (mk_23 : AA) (mo_23 : AA) (mj_23 : AA) (ml_23 : AA) (oo_23 : LA) (kc ks : Nat) (hkc : kc + (n + 1) * 3 + 64 ≤ 601024) (hks : ks + (n + 1) * 18 + 64 ≤ 7293034) (hp : p_L_c21 (p_L_law_L23 xs L n) xs L v23_4 xr_23 xt_23 gn_23 gu_23 gb_23 ga_23 lc_23 lk_23 ln_23 lt_23 ll_23 lr_23 tw_23 tn_23 tt_23 mr_23 mc_23 me_23 mw_23 mn_23 mu_23 ms_23 mt_23 md_23 mz_23 mi_23 mk_23 mo_23 mj_23 ml_23 oo_23) (he : (1 : Int32) = f_L_c21 (f_L_law_L23 xs L n) xs v23_4 xr_23 xt_23 gn_23 gu_23 gb_23 ga_23 lc_23 lk_23 ln_23 lt_23 ll_23 lr_23 tw_23 tn_23 tt_23 mr_23 mc_23 me_23 mw_23 mn_23 mu_23 ms_23 mt_23 md_23 mz_23 mi_23 mk_23 mo_23 mj_23 ml_23 oo_23) (H : Heap) (locs : List Loc) (hP : va_P D vwCl (W_L cI cJ q0 n1_0 n1_1 n1_2 n1_3 n1_4 n1_5 n1_6 n1_7 n1_8 n1_9 n1_10 n1_11 n1_12 n1_13 q8 n2_0 n2_1 n2_2 n2_3 n2_4 n2_5 n2_6 n2_7 n2_8 n2_9 n2_10 o0 xr_23 xt_23 gn_23 gu_23 gb_23 ga_23 lc_23 lk_23 ln_23 lt_23 ll_23 lr_23 tw_23 tn_23 tt_23 mr_23 mc_23 me_23 mw_23 mh_23 mn_23 mu_23 ms_23 mt_23 md_23 mz_23 mi_23 mk_23 mo_23 mj_23 ml_23 oo_23) H) (hD : va_D A (W_L cI cJ q0 n1_0 n1_1 n1_2 n1_3 n1_4 n1_5 n1_6 n1_7 n1_8 n1_9 n1_10 n1_11 n1_12 n1_13 q8 n2_0 n2_1 n2_2 n2_3 n2_4 n2_5 n2_6 n2_7 n2_8 n2_9 n2_10 o0 xr_23 xt_23 gn_23 gu_23 gb_23 ga_23 lc_23 lk_23 ln_23 lt_23 ll_23 lr_23 tw_23 tn_23 tt_23 mr_23 mc_23 me_23 mw_23 mh_23 mn_23 mu_23 ms_23 mt_23 md_23 mz_23 mi_23 mk_23 mo_23 mj_23 ml_23 oo_23)) (hS : va_S A s.heap H locs) (ls : Array Slot) (hl : lv_has ls 7 [(4, .int v23_4), (3, .ref o0), (2, .ref q8), (1, .ref q0), (0, .ref b0)]) : W p l e room_1 s m #[Value.ref b0] below meth c H locs kc ks (lw_Z below #[Value.ref b0] s) (F0 m 1241 ls []) := by
  replace he := he.trans (f_L_c21.eq_1 ..)
  replace hp := Eq.mp (p_L_c21.eq_1 ..) hp
  refine lv_aload_n hx hb dL_law_1241 rfl (lv_at hl 3 rfl) ?_
  refine lv_aload_n hx hb dL_law_1242 rfl (lv_at hl 4 rfl) ?_
  refine lv_iload hx hb dL_law_1243 (lv_at hl 0 rfl) ?_
  refine lv_iconst (v := 1) hx hb dL_law_1245 (by decide) ?_
  refine lv_iadd hx hb dL_law_1246 ?_
  have h187 := hp.1
  replace hp := hp.2
  refine va_sld hx hb hX hbl hbA hS h187 dL_law_1247 ?_
  have hq188 := hp.1
  replace hp := hp.2
  refine k_calli (S := Unit) (wc := (W_X4 cI q0 n1_0 n1_1 n1_2 n1_3 n1_4 n1_5 n1_6 n1_7 n1_8 n1_9 n1_10 n1_11 n1_12 n1_13 xr_23 xt_23 gn_23 gu_23 gb_23 ga_23 lc_23 lk_23 ln_23 lt_23 ll_23 lr_23 tw_23 tn_23 tt_23)) (wr := ((W_X5 cI q8 n2_0 n2_1 n2_2 n2_3 n2_4 n2_5 n2_6 n2_7 n2_8 n2_9 n2_10 mr_23 mc_23 me_23 mw_23 mh_23 mn_23 mu_23 ms_23 mt_23 md_23 mz_23 mi_23 mk_23 mo_23 mj_23 ml_23) ++ [(o0, .inl (cJ, 1, .inr (.inl oo_23)))])) (w1 := fun u => (W_X4 cI q0 n1_0 n1_1 n1_2 n1_3 n1_4 n1_5 n1_6 n1_7 n1_8 n1_9 n1_10 n1_11 n1_12 n1_13 xr_23 xt_23 gn_23 gu_23 gb_23 ga_23 lc_23 lk_23 ln_23 lt_23 ll_23 lr_23 tw_23 tn_23 tt_23)) (fun u => (W_L cI cJ q0 n1_0 n1_1 n1_2 n1_3 n1_4 n1_5 n1_6 n1_7 n1_8 n1_9 n1_10 n1_11 n1_12 n1_13 q8 n2_0 n2_1 n2_2 n2_3 n2_4 n2_5 n2_6 n2_7 n2_8 n2_9 n2_10 o0 xr_23 xt_23 gn_23 gu_23 gb_23 ga_23 lc_23 lk_23 ln_23 lt_23 ll_23 lr_23 tw_23 tn_23 tt_23 mr_23 mc_23 me_23 mw_23 mh_23 mn_23 mu_23 ms_23 mt_23 md_23 mz_23 mi_23 mk_23 mo_23 mj_23 ml_23 oo_23)) hP (hK.sub [0] rfl) hD hN hS hA [0, 1, 2, 3, 4, 5, 6, 7, 8, 9, 10, 11, 12, 13, 14] [15, 16, 17, 18, 19, 20, 21, 22, 23, 24, 25, 26, 27] rfl rfl (by decide) (by decide) (by decide) [13, 14, 15, 16, 17, 18, 19, 20, 21, 22, 23, 24, 25, 26, 27, 0, 1, 2, 3, 4, 5, 6, 7, 8, 9, 10, 11, 12] (by decide) (fun _ => rfl) (fun hg => va_runV (As := [.int (xs ((v23_4 + 1)).toNatClampNeg)]) (rest := []) ⟨hx, hb, hml, hown, hts⟩ (c_X4_mergedInto l D cI q0 n1_0 n1_1 n1_2 n1_3 n1_4 n1_5 n1_6 n1_7 n1_8 n1_9 n1_10 n1_11 n1_12 n1_13 xr_23 xt_23 gn_23 gu_23 gb_23 ga_23 lc_23 lk_23 ln_23 lt_23 ll_23 lr_23 tw_23 tn_23 tt_23 _ (xs ((v23_4 + 1)).toNatClampNeg) hq188) (cwV 1 hts gL_law_X4_mergedInto rfl rfl rfl (by decide +kernel) ⟨Nat.le_of_ble_eq_true rfl, Nat.le_of_ble_eq_true rfl⟩) ⟨PW.blind, va_recv hK hP (ci := 4) (q0 := 0) rfl rfl, fun U hU hW => ⟨rfl, hg U hU hW⟩⟩ rfl rfl hl.1 rfl (lv_room ((by exact Nat.le_of_ble_eq_true rfl))) dL_law_1248 ⟨(by show kc + 0 ≤ 601024; omega), (by show ks + 0 ≤ 7293034; omega)⟩) (fun r188 u H locs hw hP hD hS => ?_)
  subst hw
  refine lv_aload_n hx hb dL_law_1251 rfl (lv_at hl 2 rfl) ?_
  refine lv_aload_n hx hb dL_law_1252 rfl (lv_at hl 4 rfl) ?_
  refine lv_iload hx hb dL_law_1253 (lv_at hl 0 rfl) ?_
  refine lv_iconst (v := 1) hx hb dL_law_1255 (by decide) ?_
  refine lv_iadd hx hb dL_law_1256 ?_
  have h189 := hp.1
  replace hp := hp.2
  refine va_sld hx hb hX hbl hbA hS h189 dL_law_1257 ?_
  have hq190 := hp.1
  replace hp := hp.2
  refine k_calli (S := Int32) (wc := (W_X5 cI q8 n2_0 n2_1 n2_2 n2_3 n2_4 n2_5 n2_6 n2_7 n2_8 n2_9 n2_10 mr_23 mc_23 me_23 mw_23 mh_23 mn_23 mu_23 ms_23 mt_23 md_23 mz_23 mi_23 mk_23 mo_23 mj_23 ml_23)) (wr := (W_O cI cJ q0 n1_0 n1_1 n1_2 n1_3 n1_4 n1_5 n1_6 n1_7 n1_8 n1_9 n1_10 n1_11 n1_12 n1_13 o0 xr_23 xt_23 gn_23 gu_23 gb_23 ga_23 lc_23 lk_23 ln_23 lt_23 ll_23 lr_23 tw_23 tn_23 tt_23 oo_23)) (w1 := fun u => (W_X5 cI q8 n2_0 n2_1 n2_2 n2_3 n2_4 n2_5 n2_6 n2_7 n2_8 n2_9 n2_10 mr_23 mc_23 me_23 mw_23 u mn_23 mu_23 ms_23 mt_23 md_23 mz_23 mi_23 mk_23 mo_23 mj_23 ml_23)) (fun u => (W_L cI cJ q0 n1_0 n1_1 n1_2 n1_3 n1_4 n1_5 n1_6 n1_7 n1_8 n1_9 n1_10 n1_11 n1_12 n1_13 q8 n2_0 n2_1 n2_2 n2_3 n2_4 n2_5 n2_6 n2_7 n2_8 n2_9 n2_10 o0 xr_23 xt_23 gn_23 gu_23 gb_23 ga_23 lc_23 lk_23 ln_23 lt_23 ll_23 lr_23 tw_23 tn_23 tt_23 mr_23 mc_23 me_23 mw_23 u mn_23 mu_23 ms_23 mt_23 md_23 mz_23 mi_23 mk_23 mo_23 mj_23 ml_23 oo_23)) hP (hK.sub [0] rfl) hD hN hS hA [15, 16, 17, 18, 19, 20, 21, 22, 23, 24, 25, 26] [0, 1, 2, 3, 4, 5, 6, 7, 8, 9, 10, 11, 12, 13, 14, 27] rfl rfl (by decide) (by decide) (by decide) [0, 1, 2, 3, 4, 5, 6, 7, 8, 9, 10, 11, 12, 13, 14, 16, 17, 18, 19, 20, 21, 22, 23, 24, 25, 26, 27, 15] (by decide) (fun _ => rfl) (fun hg => va_runV (As := [.int (xs ((v23_4 + 1)).toNatClampNeg)]) (rest := [.int (f_X4_mergedInto tw_23 tt_23 (xs ((v23_4 + 1)).toNatClampNeg))]) ⟨hx, hb, hml, hown, hts⟩ (c_X5_mergedInto l D cI q8 n2_0 n2_1 n2_2 n2_3 n2_4 n2_5 n2_6 n2_7 n2_8 n2_9 n2_10 mr_23 mc_23 me_23 mw_23 mh_23 mn_23 mu_23 ms_23 mt_23 md_23 mz_23 mi_23 mk_23 mo_23 mj_23 ml_23 _ (xs ((v23_4 + 1)).toNatClampNeg) hq190) (cwV 1 hts gL_law_X5_mergedInto rfl rfl rfl (by decide +kernel) ⟨Nat.le_of_ble_eq_true rfl, Nat.le_of_ble_eq_true rfl⟩) ⟨PW.blind, va_recv hK hP (ci := 5) (q0 := 15) rfl rfl, fun U hU hW => ⟨rfl, hg U hU hW⟩⟩ rfl rfl hl.1 rfl (lv_room ((by exact Nat.le_of_ble_eq_true rfl))) dL_law_1258 ⟨(by show kc + 0 ≤ 601024; omega), (by show ks + 0 ≤ 7293034; omega)⟩) (fun r190 u H locs hw hP hD hS => ?_)
  obtain ⟨u190_0, rfl⟩ : ∃ z, z = u := ⟨_, rfl⟩
  rw [hw] at he
  try dsimp only at he
  replace hp := hp r190 u190_0 hw
  have hP : va_P D vwCl (W_L cI cJ q0 n1_0 n1_1 n1_2 n1_3 n1_4 n1_5 n1_6 n1_7 n1_8 n1_9 n1_10 n1_11 n1_12 n1_13 q8 n2_0 n2_1 n2_2 n2_3 n2_4 n2_5 n2_6 n2_7 n2_8 n2_9 n2_10 o0 xr_23 xt_23 gn_23 gu_23 gb_23 ga_23 lc_23 lk_23 ln_23 lt_23 ll_23 lr_23 tw_23 tn_23 tt_23 mr_23 mc_23 me_23 mw_23 u190_0 mn_23 mu_23 ms_23 mt_23 md_23 mz_23 mi_23 mk_23 mo_23 mj_23 ml_23 oo_23) H := hP
  have hD : va_D A (W_L cI cJ q0 n1_0 n1_1 n1_2 n1_3 n1_4 n1_5 n1_6 n1_7 n1_8 n1_9 n1_10 n1_11 n1_12 n1_13 q8 n2_0 n2_1 n2_2 n2_3 n2_4 n2_5 n2_6 n2_7 n2_8 n2_9 n2_10 o0 xr_23 xt_23 gn_23 gu_23 gb_23 ga_23 lc_23 lk_23 ln_23 lt_23 ll_23 lr_23 tw_23 tn_23 tt_23 mr_23 mc_23 me_23 mw_23 u190_0 mn_23 mu_23 ms_23 mt_23 md_23 mz_23 mi_23 mk_23 mo_23 mj_23 ml_23 oo_23) := hD
  refine lv_icmp_eq (tgt := 1579) hx hb dL_law_1261 (by decide) (fun c191 => ?_) (fun c191 => ?_)
  · replace hp := hp.1 c191
    replace he := he.trans (if_pos c191)
    refine lv_iinc (v := (v23_4 + 3)) (lv' := [(4, .int (v23_4 + 3)), (3, .ref o0), (2, .ref q8), (1, .ref q0), (0, .ref b0)]) hx hb dL_law_1579 hl (k := 0) rfl rfl (by decide) rfl (fun ls hl => ?_)
    refine lv_goto (tgt := 23) hx hb dL_law_1582 (by decide) ?_
    refine W.widen (k := kc + 3) (n := ks + 18) (by omega) (by omega) ?_
    exact ih _ _ _ _ _ _ _ _ _ _ _ _ _ _ _ _ _ _ _ _ _ _ _ _ _ _ _ _ _ _ _ _ _ (kc + 3) (ks + 18) (by omega) (by omega) hp he _ _ hP hD hS _ (lv_sub hl [0, 1, 2, 3, 4] rfl)
  · replace hp := hp.2 c191
    replace he := he.trans (if_neg c191)
    refine lv_iconst (v := 0) hx hb dL_law_1264 (by decide) ?_
    exact absurd he (by decide)
set_option maxHeartbeats 8000000 in
set_option maxRecDepth 100000 in
theorem law_c27 {p : Program} {l : Launch} {e : Env} {s : State} {m : MethodId} {below : List Frame} {meth : Method} {c : Code} {D : va_G} {cI cJ : ClassId} {b0 L : Nat} {xs : Nat → Int32} {A : Nat → Prop} {q0 n1_0 n1_1 n1_2 n1_3 n1_4 n1_5 n1_6 n1_7 n1_8 n1_9 n1_10 n1_11 n1_12 n1_13 q8 n2_0 n2_1 n2_2 n2_3 n2_4 n2_5 n2_6 n2_7 n2_8 n2_9 n2_10 o0 : Nat} (hx : p.tables.exec = Jvm.exec) (hb : c.code = code) (hr : meth.sig.returnType = ret) (hml : c.maxLocals = 7) (hown : s.vm.findClass RL = some m.cls) (hts : ∀ w ∈ wsL_law, w.before #[Value.ref b0] s = true) (hX : va_X b0 L xs s s.heap) (hbl : b0 < s.heap.size) (hlocks : meth.locks = false) (hbA : ¬ A b0) (hA : ∀ q : Nat, s.heap.size ≤ q → A q) (hAle : ∀ q : Nat, A q → s.heap.size ≤ q) (hN : NB s) (hXB : XB A s s.heap) (hst : l.stackTraces = false) (hK : va_K D vwCl [(cI, .int), (cJ, .long)] s) {n : Nat} (ih : ∀ (v23_4 : Int32) (xr_23 : Int32) (xt_23 : Int32) (gn_23 : AA) (gu_23 : AA) (gb_23 : AA) (ga_23 : AA) (lc_23 : Int32) (lk_23 : AA) (ln_23 : AA) (lt_23 : AA) (ll_23 : AA) (lr_23 : AA) (tw_23 : Int32) (tn_23 : AA) (tt_23 : AA) (mr_23 : Int32) (mc_23 : Int32) (me_23 : Int32) (mw_23 : Int32) (mh_23 : Int32) (mn_23 : AA) (mu_23 : AA) (ms_23 : AA) (mt_23 : AA) (md_23 : AA) (mz_23 : AA) (mi_23 : AA) (mk_23 : AA) (mo_23 : AA) (mj_23 : AA) (ml_23 : AA) (oo_23 : LA) (kc ks : Nat), kc + n * 3 + 64 ≤ 601024 → ks + n * 18 + 64 ≤ 7293034 → p_L_law_L23 xs L n v23_4 xr_23 xt_23 gn_23 gu_23 gb_23 ga_23 lc_23 lk_23 ln_23 lt_23 ll_23 lr_23 tw_23 tn_23 tt_23 mr_23 mc_23 me_23 mw_23 mh_23 mn_23 mu_23 ms_23 mt_23 md_23 mz_23 mi_23 mk_23 mo_23 mj_23 ml_23 oo_23 → (1 : Int32) = f_L_law_L23 xs L n v23_4 xr_23 xt_23 gn_23 gu_23 gb_23 ga_23 lc_23 lk_23 ln_23 lt_23 ll_23 lr_23 tw_23 tn_23 tt_23 mr_23 mc_23 me_23 mw_23 mh_23 mn_23 mu_23 ms_23 mt_23 md_23 mz_23 mi_23 mk_23 mo_23 mj_23 ml_23 oo_23 → ∀ (H : Heap) (locs : List Loc), va_P D vwCl (W_L cI cJ q0 n1_0 n1_1 n1_2 n1_3 n1_4 n1_5 n1_6 n1_7 n1_8 n1_9 n1_10 n1_11 n1_12 n1_13 q8 n2_0 n2_1 n2_2 n2_3 n2_4 n2_5 n2_6 n2_7 n2_8 n2_9 n2_10 o0 xr_23 xt_23 gn_23 gu_23 gb_23 ga_23 lc_23 lk_23 ln_23 lt_23 ll_23 lr_23 tw_23 tn_23 tt_23 mr_23 mc_23 me_23 mw_23 mh_23 mn_23 mu_23 ms_23 mt_23 md_23 mz_23 mi_23 mk_23 mo_23 mj_23 ml_23 oo_23) H → va_D A (W_L cI cJ q0 n1_0 n1_1 n1_2 n1_3 n1_4 n1_5 n1_6 n1_7 n1_8 n1_9 n1_10 n1_11 n1_12 n1_13 q8 n2_0 n2_1 n2_2 n2_3 n2_4 n2_5 n2_6 n2_7 n2_8 n2_9 n2_10 o0 xr_23 xt_23 gn_23 gu_23 gb_23 ga_23 lc_23 lk_23 ln_23 lt_23 ll_23 lr_23 tw_23 tn_23 tt_23 mr_23 mc_23 me_23 mw_23 mh_23 mn_23 mu_23 ms_23 mt_23 md_23 mz_23 mi_23 mk_23 mo_23 mj_23 ml_23 oo_23) → va_S A s.heap H locs → ∀ ls : Array Slot, lv_has ls 7 [(4, .int v23_4), (3, .ref o0), (2, .ref q8), (1, .ref q0), (0, .ref b0)] → W p l e room_1 s m #[Value.ref b0] below meth c H locs kc ks (lw_Z below #[Value.ref b0] s) (F0 m 23 ls [])) (v23_4 : Int32) (xr_23 : Int32) (xt_23 : Int32) (gn_23 : AA) (gu_23 : AA) (gb_23 : AA) (ga_23 : AA) (lc_23 : Int32) (lk_23 : AA) (ln_23 : AA) (lt_23 : AA) (ll_23 : AA) (lr_23 : AA) (tw_23 : Int32) (tn_23 : AA) (tt_23 : AA) (mr_23 : Int32) (mc_23 : Int32) (me_23 : Int32) (mw_23 : Int32) (mh_23 : Int32) (mn_23 : AA) (mu_23 : AA) (ms_23 : AA) (mt_23 : AA) (md_23 : AA) (mz_23 : AA) (mi_23 : AA) (mk_23 : AA) (mo_23 : AA) (mj_23 : AA) (ml_23 : AA) (oo_23 : LA) (kc ks : Nat) (hkc : kc + (n + 1) * 3 + 64 ≤ 601024) (hks : ks + (n + 1) * 18 + 64 ≤ 7293034) (hp : p_L_c27 (p_L_law_L23 xs L n) xs L v23_4 xr_23 xt_23 gn_23 gu_23 gb_23 ga_23 lc_23 lk_23 ln_23 lt_23 ll_23 lr_23 tw_23 tn_23 tt_23 mr_23 mc_23 me_23 mw_23 mn_23 mu_23 ms_23 mt_23 md_23 mz_23 mi_23 mk_23 mo_23 mj_23 ml_23 oo_23) (he : (1 : Int32) = f_L_c27 (f_L_law_L23 xs L n) xs v23_4 xr_23 xt_23 gn_23 gu_23 gb_23 ga_23 lc_23 lk_23 ln_23 lt_23 ll_23 lr_23 tw_23 tn_23 tt_23 mr_23 mc_23 me_23 mw_23 mn_23 mu_23 ms_23 mt_23 md_23 mz_23 mi_23 mk_23 mo_23 mj_23 ml_23 oo_23) (H : Heap) (locs : List Loc) (hP : va_P D vwCl (W_L cI cJ q0 n1_0 n1_1 n1_2 n1_3 n1_4 n1_5 n1_6 n1_7 n1_8 n1_9 n1_10 n1_11 n1_12 n1_13 q8 n2_0 n2_1 n2_2 n2_3 n2_4 n2_5 n2_6 n2_7 n2_8 n2_9 n2_10 o0 xr_23 xt_23 gn_23 gu_23 gb_23 ga_23 lc_23 lk_23 ln_23 lt_23 ll_23 lr_23 tw_23 tn_23 tt_23 mr_23 mc_23 me_23 mw_23 mh_23 mn_23 mu_23 ms_23 mt_23 md_23 mz_23 mi_23 mk_23 mo_23 mj_23 ml_23 oo_23) H) (hD : va_D A (W_L cI cJ q0 n1_0 n1_1 n1_2 n1_3 n1_4 n1_5 n1_6 n1_7 n1_8 n1_9 n1_10 n1_11 n1_12 n1_13 q8 n2_0 n2_1 n2_2 n2_3 n2_4 n2_5 n2_6 n2_7 n2_8 n2_9 n2_10 o0 xr_23 xt_23 gn_23 gu_23 gb_23 ga_23 lc_23 lk_23 ln_23 lt_23 ll_23 lr_23 tw_23 tn_23 tt_23 mr_23 mc_23 me_23 mw_23 mh_23 mn_23 mu_23 ms_23 mt_23 md_23 mz_23 mi_23 mk_23 mo_23 mj_23 ml_23 oo_23)) (hS : va_S A s.heap H locs) (ls : Array Slot) (hl : lv_has ls 7 [(4, .int v23_4), (3, .ref o0), (2, .ref q8), (1, .ref q0), (0, .ref b0)]) : W p l e room_1 s m #[Value.ref b0] below meth c H locs kc ks (lw_Z below #[Value.ref b0] s) (F0 m 1467 ls []) := by
  replace he := he.trans (f_L_c27.eq_1 ..)
  replace hp := Eq.mp (p_L_c27.eq_1 ..) hp
  refine lv_aload_n hx hb dL_law_1467 rfl (lv_at hl 3 rfl) ?_
  refine lv_aload_n hx hb dL_law_1468 rfl (lv_at hl 4 rfl) ?_
  refine lv_iload hx hb dL_law_1469 (lv_at hl 0 rfl) ?_
  refine lv_iconst (v := 1) hx hb dL_law_1471 (by decide) ?_
  refine lv_iadd hx hb dL_law_1472 ?_
  have h227 := hp.1
  replace hp := hp.2
  refine va_sld hx hb hX hbl hbA hS h227 dL_law_1473 ?_
  refine lv_aload_n hx hb dL_law_1474 rfl (lv_at hl 1 rfl) ?_
  have hq228 := hp.1
  replace hp := hp.2
  refine k_ycalli (S := LA) (wc := (W_O cI cJ q0 n1_0 n1_1 n1_2 n1_3 n1_4 n1_5 n1_6 n1_7 n1_8 n1_9 n1_10 n1_11 n1_12 n1_13 o0 xr_23 xt_23 gn_23 gu_23 gb_23 ga_23 lc_23 lk_23 ln_23 lt_23 ll_23 lr_23 tw_23 tn_23 tt_23 oo_23)) (wr := (W_X5 cI q8 n2_0 n2_1 n2_2 n2_3 n2_4 n2_5 n2_6 n2_7 n2_8 n2_9 n2_10 mr_23 mc_23 me_23 mw_23 mh_23 mn_23 mu_23 ms_23 mt_23 md_23 mz_23 mi_23 mk_23 mo_23 mj_23 ml_23)) (w1 := fun u => (W_O cI cJ q0 n1_0 n1_1 n1_2 n1_3 n1_4 n1_5 n1_6 n1_7 n1_8 n1_9 n1_10 n1_11 n1_12 n1_13 o0 xr_23 xt_23 gn_23 gu_23 gb_23 ga_23 lc_23 lk_23 ln_23 lt_23 ll_23 lr_23 tw_23 tn_23 tt_23 u)) (fun u => (W_L cI cJ q0 n1_0 n1_1 n1_2 n1_3 n1_4 n1_5 n1_6 n1_7 n1_8 n1_9 n1_10 n1_11 n1_12 n1_13 q8 n2_0 n2_1 n2_2 n2_3 n2_4 n2_5 n2_6 n2_7 n2_8 n2_9 n2_10 o0 xr_23 xt_23 gn_23 gu_23 gb_23 ga_23 lc_23 lk_23 ln_23 lt_23 ll_23 lr_23 tw_23 tn_23 tt_23 mr_23 mc_23 me_23 mw_23 mh_23 mn_23 mu_23 ms_23 mt_23 md_23 mz_23 mi_23 mk_23 mo_23 mj_23 ml_23 u)) hP hK hD hN hXB hS hA [0, 1, 2, 3, 4, 5, 6, 7, 8, 9, 10, 11, 12, 13, 14, 27] [15, 16, 17, 18, 19, 20, 21, 22, 23, 24, 25, 26] rfl rfl (by decide) (by decide) (by decide) [12, 13, 14, 15, 16, 17, 18, 19, 20, 21, 22, 23, 24, 25, 26, 0, 1, 2, 3, 4, 5, 6, 7, 8, 9, 10, 11, 27] (by decide) (fun _ => rfl) (fun hg => vx_runSW (As := [.ref q0, .int (xs ((v23_4 + 1)).toNatClampNeg), .ref o0]) (rest := []) ⟨hx, hb, hml, hown, hts⟩ (c_L_greedyCause l D cI cJ q0 n1_0 n1_1 n1_2 n1_3 n1_4 n1_5 n1_6 n1_7 n1_8 n1_9 n1_10 n1_11 n1_12 n1_13 o0 xr_23 xt_23 gn_23 gu_23 gb_23 ga_23 lc_23 lk_23 ln_23 lt_23 ll_23 lr_23 tw_23 tn_23 tt_23 oo_23 _ (xs ((v23_4 + 1)).toNatClampNeg) hq228 hst) (vx_cwSW 3 hts gL_law_L_greedyCause rfl rfl rfl (by decide +kernel) ⟨Nat.le_of_ble_eq_true rfl, Nat.le_of_ble_eq_true rfl⟩) ⟨PX.blind, fun U hU hW => ⟨rfl, hg U hU hW⟩⟩ rfl rfl hl.1 rfl (lv_room ((by exact Nat.le_of_ble_eq_true rfl))) dL_law_1475 ⟨(by show kc + 2 ≤ 601024; omega), (by show ks + 9 ≤ 7293034; omega)⟩) (fun r228 u H locs hw hP hD hS => ?_)
  obtain ⟨u228_0, rfl⟩ : ∃ z, z = u := ⟨_, rfl⟩
  rw [hw] at he
  try dsimp only at he
  replace hp := hp r228 u228_0 hw
  have hP : va_P D vwCl (W_L cI cJ q0 n1_0 n1_1 n1_2 n1_3 n1_4 n1_5 n1_6 n1_7 n1_8 n1_9 n1_10 n1_11 n1_12 n1_13 q8 n2_0 n2_1 n2_2 n2_3 n2_4 n2_5 n2_6 n2_7 n2_8 n2_9 n2_10 o0 xr_23 xt_23 gn_23 gu_23 gb_23 ga_23 lc_23 lk_23 ln_23 lt_23 ll_23 lr_23 tw_23 tn_23 tt_23 mr_23 mc_23 me_23 mw_23 mh_23 mn_23 mu_23 ms_23 mt_23 md_23 mz_23 mi_23 mk_23 mo_23 mj_23 ml_23 u228_0) H := hP
  have hD : va_D A (W_L cI cJ q0 n1_0 n1_1 n1_2 n1_3 n1_4 n1_5 n1_6 n1_7 n1_8 n1_9 n1_10 n1_11 n1_12 n1_13 q8 n2_0 n2_1 n2_2 n2_3 n2_4 n2_5 n2_6 n2_7 n2_8 n2_9 n2_10 o0 xr_23 xt_23 gn_23 gu_23 gb_23 ga_23 lc_23 lk_23 ln_23 lt_23 ll_23 lr_23 tw_23 tn_23 tt_23 mr_23 mc_23 me_23 mw_23 mh_23 mn_23 mu_23 ms_23 mt_23 md_23 mz_23 mi_23 mk_23 mo_23 mj_23 ml_23 u228_0) := hD
  refine lv_istore (lv' := [(5, .int r228), (4, .int v23_4), (3, .ref o0), (2, .ref q8), (1, .ref q0), (0, .ref b0)]) hx hb dL_law_1478 hl (by decide) rfl (fun ls hl => ?_)
  refine lv_aload_n hx hb dL_law_1480 rfl (lv_at hl 3 rfl) ?_
  refine lv_aload_n hx hb dL_law_1481 rfl (lv_at hl 5 rfl) ?_
  refine lv_iload hx hb dL_law_1482 (lv_at hl 1 rfl) ?_
  refine lv_iconst (v := 1) hx hb dL_law_1484 (by decide) ?_
  refine lv_iadd hx hb dL_law_1485 ?_
  have h229 := hp.1
  replace hp := hp.2
  refine va_sld hx hb hX hbl hbA hS h229 dL_law_1486 ?_
  have hq230 := hp.1
  replace hp := hp.2
  refine k_calli (S := Int32) (wc := (W_X5 cI q8 n2_0 n2_1 n2_2 n2_3 n2_4 n2_5 n2_6 n2_7 n2_8 n2_9 n2_10 mr_23 mc_23 me_23 mw_23 mh_23 mn_23 mu_23 ms_23 mt_23 md_23 mz_23 mi_23 mk_23 mo_23 mj_23 ml_23)) (wr := (W_O cI cJ q0 n1_0 n1_1 n1_2 n1_3 n1_4 n1_5 n1_6 n1_7 n1_8 n1_9 n1_10 n1_11 n1_12 n1_13 o0 xr_23 xt_23 gn_23 gu_23 gb_23 ga_23 lc_23 lk_23 ln_23 lt_23 ll_23 lr_23 tw_23 tn_23 tt_23 u228_0)) (w1 := fun u => (W_X5 cI q8 n2_0 n2_1 n2_2 n2_3 n2_4 n2_5 n2_6 n2_7 n2_8 n2_9 n2_10 mr_23 mc_23 me_23 mw_23 u mn_23 mu_23 ms_23 mt_23 md_23 mz_23 mi_23 mk_23 mo_23 mj_23 ml_23)) (fun u => (W_L cI cJ q0 n1_0 n1_1 n1_2 n1_3 n1_4 n1_5 n1_6 n1_7 n1_8 n1_9 n1_10 n1_11 n1_12 n1_13 q8 n2_0 n2_1 n2_2 n2_3 n2_4 n2_5 n2_6 n2_7 n2_8 n2_9 n2_10 o0 xr_23 xt_23 gn_23 gu_23 gb_23 ga_23 lc_23 lk_23 ln_23 lt_23 ll_23 lr_23 tw_23 tn_23 tt_23 mr_23 mc_23 me_23 mw_23 u mn_23 mu_23 ms_23 mt_23 md_23 mz_23 mi_23 mk_23 mo_23 mj_23 ml_23 u228_0)) hP (hK.sub [0] rfl) hD hN hS hA [15, 16, 17, 18, 19, 20, 21, 22, 23, 24, 25, 26] [0, 1, 2, 3, 4, 5, 6, 7, 8, 9, 10, 11, 12, 13, 14, 27] rfl rfl (by decide) (by decide) (by decide) [0, 1, 2, 3, 4, 5, 6, 7, 8, 9, 10, 11, 12, 13, 14, 16, 17, 18, 19, 20, 21, 22, 23, 24, 25, 26, 27, 15] (by decide) (fun _ => rfl) (fun hg => va_runV (As := [.int (xs ((v23_4 + 1)).toNatClampNeg)]) (rest := []) ⟨hx, hb, hml, hown, hts⟩ (c_X5_greedyCause l D cI q8 n2_0 n2_1 n2_2 n2_3 n2_4 n2_5 n2_6 n2_7 n2_8 n2_9 n2_10 mr_23 mc_23 me_23 mw_23 mh_23 mn_23 mu_23 ms_23 mt_23 md_23 mz_23 mi_23 mk_23 mo_23 mj_23 ml_23 _ (xs ((v23_4 + 1)).toNatClampNeg) hq230) (cwV 1 hts gL_law_X5_greedyCause rfl rfl rfl (by decide +kernel) ⟨Nat.le_of_ble_eq_true rfl, Nat.le_of_ble_eq_true rfl⟩) ⟨PW.blind, va_recv hK hP (ci := 5) (q0 := 15) rfl rfl, fun U hU hW => ⟨rfl, hg U hU hW⟩⟩ rfl rfl hl.1 rfl (lv_room ((by exact Nat.le_of_ble_eq_true rfl))) dL_law_1487 ⟨(by show (kc + 2) + 0 ≤ 601024; omega), (by show (ks + 9) + 0 ≤ 7293034; omega)⟩) (fun r230 u H locs hw hP hD hS => ?_)
  obtain ⟨u230_0, rfl⟩ : ∃ z, z = u := ⟨_, rfl⟩
  rw [hw] at he
  try dsimp only at he
  replace hp := hp r230 u230_0 hw
  have hP : va_P D vwCl (W_L cI cJ q0 n1_0 n1_1 n1_2 n1_3 n1_4 n1_5 n1_6 n1_7 n1_8 n1_9 n1_10 n1_11 n1_12 n1_13 q8 n2_0 n2_1 n2_2 n2_3 n2_4 n2_5 n2_6 n2_7 n2_8 n2_9 n2_10 o0 xr_23 xt_23 gn_23 gu_23 gb_23 ga_23 lc_23 lk_23 ln_23 lt_23 ll_23 lr_23 tw_23 tn_23 tt_23 mr_23 mc_23 me_23 mw_23 u230_0 mn_23 mu_23 ms_23 mt_23 md_23 mz_23 mi_23 mk_23 mo_23 mj_23 ml_23 u228_0) H := hP
  have hD : va_D A (W_L cI cJ q0 n1_0 n1_1 n1_2 n1_3 n1_4 n1_5 n1_6 n1_7 n1_8 n1_9 n1_10 n1_11 n1_12 n1_13 q8 n2_0 n2_1 n2_2 n2_3 n2_4 n2_5 n2_6 n2_7 n2_8 n2_9 n2_10 o0 xr_23 xt_23 gn_23 gu_23 gb_23 ga_23 lc_23 lk_23 ln_23 lt_23 ll_23 lr_23 tw_23 tn_23 tt_23 mr_23 mc_23 me_23 mw_23 u230_0 mn_23 mu_23 ms_23 mt_23 md_23 mz_23 mi_23 mk_23 mo_23 mj_23 ml_23 u228_0) := hD
  refine lv_istore (lv' := [(6, .int r230), (5, .int r228), (4, .int v23_4), (3, .ref o0), (2, .ref q8), (1, .ref q0), (0, .ref b0)]) hx hb dL_law_1490 hl (by decide) rfl (fun ls hl => ?_)
  refine lv_aload_n hx hb dL_law_1492 rfl (lv_at hl 4 rfl) ?_
  refine k_calli (S := Unit) (wc := (W_X5 cI q8 n2_0 n2_1 n2_2 n2_3 n2_4 n2_5 n2_6 n2_7 n2_8 n2_9 n2_10 mr_23 mc_23 me_23 mw_23 u230_0 mn_23 mu_23 ms_23 mt_23 md_23 mz_23 mi_23 mk_23 mo_23 mj_23 ml_23)) (wr := (W_O cI cJ q0 n1_0 n1_1 n1_2 n1_3 n1_4 n1_5 n1_6 n1_7 n1_8 n1_9 n1_10 n1_11 n1_12 n1_13 o0 xr_23 xt_23 gn_23 gu_23 gb_23 ga_23 lc_23 lk_23 ln_23 lt_23 ll_23 lr_23 tw_23 tn_23 tt_23 u228_0)) (w1 := fun u => (W_X5 cI q8 n2_0 n2_1 n2_2 n2_3 n2_4 n2_5 n2_6 n2_7 n2_8 n2_9 n2_10 mr_23 mc_23 me_23 mw_23 u230_0 mn_23 mu_23 ms_23 mt_23 md_23 mz_23 mi_23 mk_23 mo_23 mj_23 ml_23)) (fun u => (W_L cI cJ q0 n1_0 n1_1 n1_2 n1_3 n1_4 n1_5 n1_6 n1_7 n1_8 n1_9 n1_10 n1_11 n1_12 n1_13 q8 n2_0 n2_1 n2_2 n2_3 n2_4 n2_5 n2_6 n2_7 n2_8 n2_9 n2_10 o0 xr_23 xt_23 gn_23 gu_23 gb_23 ga_23 lc_23 lk_23 ln_23 lt_23 ll_23 lr_23 tw_23 tn_23 tt_23 mr_23 mc_23 me_23 mw_23 u230_0 mn_23 mu_23 ms_23 mt_23 md_23 mz_23 mi_23 mk_23 mo_23 mj_23 ml_23 u228_0)) hP (hK.sub [0] rfl) hD hN hS hA [15, 16, 17, 18, 19, 20, 21, 22, 23, 24, 25, 26] [0, 1, 2, 3, 4, 5, 6, 7, 8, 9, 10, 11, 12, 13, 14, 27] rfl rfl (by decide) (by decide) (by decide) [0, 1, 2, 3, 4, 5, 6, 7, 8, 9, 10, 11, 12, 13, 14, 16, 17, 18, 19, 20, 21, 22, 23, 24, 25, 26, 27, 15] (by decide) (fun _ => rfl) (fun hg => va_runV (As := []) (rest := []) ⟨hx, hb, hml, hown, hts⟩ (c_X5_thrown l D cI q8 n2_0 n2_1 n2_2 n2_3 n2_4 n2_5 n2_6 n2_7 n2_8 n2_9 n2_10 mr_23 mc_23 me_23 mw_23 u230_0 mn_23 mu_23 ms_23 mt_23 md_23 mz_23 mi_23 mk_23 mo_23 mj_23 ml_23 _ ) (cwV 0 hts gL_law_X5_thrown rfl rfl rfl (by decide +kernel) ⟨Nat.le_of_ble_eq_true rfl, Nat.le_of_ble_eq_true rfl⟩) ⟨PW.blind, va_recv hK hP (ci := 5) (q0 := 15) rfl rfl, fun U hU hW => ⟨rfl, hg U hU hW⟩⟩ rfl rfl hl.1 rfl (lv_room ((by exact Nat.le_of_ble_eq_true rfl))) dL_law_1493 ⟨(by show (kc + 2) + 0 ≤ 601024; omega), (by show (ks + 9) + 0 ≤ 7293034; omega)⟩) (fun r231 u H locs hw hP hD hS => ?_)
  subst hw
  refine lv_iload hx hb dL_law_1496 (lv_at hl 1 rfl) ?_
  refine lv_icmp_eq (tgt := 1503) hx hb dL_law_1498 (by decide) (fun c232 => ?_) (fun c232 => ?_)
  · replace hp := hp.1 c232
    replace he := he.trans (if_pos c232)
    refine lv_iload hx hb dL_law_1503 (lv_at hl 1 rfl) ?_
    refine lv_if_ne (tgt := 1520) hx hb dL_law_1505 (by decide) (fun c233 => ?_) (fun c233 => ?_)
    · replace hp := hp.2 c233
      replace he := he.trans (if_neg c233)
      refine lv_goto (tgt := 1579) hx hb dL_law_1520 (by decide) ?_
      refine lv_iinc (v := (v23_4 + 3)) (lv' := [(4, .int (v23_4 + 3)), (6, .int r230), (5, .int r228), (3, .ref o0), (2, .ref q8), (1, .ref q0), (0, .ref b0)]) hx hb dL_law_1579 hl (k := 2) rfl rfl (by decide) rfl (fun ls hl => ?_)
      refine lv_goto (tgt := 23) hx hb dL_law_1582 (by decide) ?_
      refine W.widen (k := kc + 3) (n := ks + 18) (by omega) (by omega) ?_
      exact ih _ _ _ _ _ _ _ _ _ _ _ _ _ _ _ _ _ _ _ _ _ _ _ _ _ _ _ _ _ _ _ _ _ (kc + 3) (ks + 18) (by omega) (by omega) hp he _ _ hP hD hS _ (lv_sub hl [0, 3, 4, 5, 6] rfl)
    · replace hp := hp.1 c233
      replace he := he.trans (if_pos c233)
      refine lv_aload_n hx hb dL_law_1508 rfl (lv_at hl 3 rfl) ?_
      refine lv_iconst (v := 0) hx hb dL_law_1509 (by decide) ?_
      refine va_lald hx hb hK hP 27 1 rfl rfl (by unfold vp_in; decide) dL_law_1510 ?_
      refine lv_iload hx hb dL_law_1511 (lv_at hl 0 rfl) ?_
      refine lv_i2l (v := (r230).toInt64) hx hb dL_law_1513 rfl ?_
      refine W.lcmp hx hb dL_law_1514 ?_
      refine lv_if_eq (tgt := 1520) hx hb dL_law_1515 (by decide) (fun c235 => ?_) (fun c235 => ?_)
      · replace hp := hp.1 c235
        replace he := he.trans (if_pos c235)
        refine lv_goto (tgt := 1579) hx hb dL_law_1520 (by decide) ?_
        refine lv_iinc (v := (v23_4 + 3)) (lv' := [(4, .int (v23_4 + 3)), (6, .int r230), (5, .int r228), (3, .ref o0), (2, .ref q8), (1, .ref q0), (0, .ref b0)]) hx hb dL_law_1579 hl (k := 2) rfl rfl (by decide) rfl (fun ls hl => ?_)
        refine lv_goto (tgt := 23) hx hb dL_law_1582 (by decide) ?_
        refine W.widen (k := kc + 3) (n := ks + 18) (by omega) (by omega) ?_
        exact ih _ _ _ _ _ _ _ _ _ _ _ _ _ _ _ _ _ _ _ _ _ _ _ _ _ _ _ _ _ _ _ _ _ (kc + 3) (ks + 18) (by omega) (by omega) hp he _ _ hP hD hS _ (lv_sub hl [0, 3, 4, 5, 6] rfl)
      · replace hp := hp.2 c235
        replace he := he.trans (if_neg c235)
        refine lv_iconst (v := 0) hx hb dL_law_1518 (by decide) ?_
        exact absurd he (by decide)
  · replace hp := hp.2 c232
    replace he := he.trans (if_neg c232)
    refine lv_iconst (v := 0) hx hb dL_law_1501 (by decide) ?_
    exact absurd he (by decide)
