set_option maxHeartbeats 8000000 in
set_option maxRecDepth 100000 in
theorem law_c4 {p : Program} {l : Launch} {e : Env} {s : State} {m : MethodId} {below : List Frame} {meth : Method} {c : Code} {D : va_G} {cI cJ : ClassId} {b0 L : Nat} {xs : Nat → Int32} {A : Nat → Prop} {q0 n1_0 n1_1 n1_2 n1_3 n1_4 n1_5 n1_6 n1_7 n1_8 n1_9 n1_10 n1_11 n1_12 n1_13 q8 n2_0 n2_1 n2_2 n2_3 n2_4 n2_5 n2_6 n2_7 n2_8 n2_9 n2_10 o0 : Nat} (hx : p.tables.exec = Jvm.exec) (hb : c.code = code) (hr : meth.sig.returnType = ret) (hml : c.maxLocals = 7) (hown : s.vm.findClass RL = some m.cls) (hts : ∀ w ∈ wsL_law, w.before #[Value.ref b0] s = true) (hX : va_X b0 L xs s s.heap) (hbl : b0 < s.heap.size) (hlocks : meth.locks = false) (hbA : ¬ A b0) (hA : ∀ q : Nat, s.heap.size ≤ q → A q) (hAle : ∀ q : Nat, A q → s.heap.size ≤ q) (hN : NB s) (hXB : XB A s s.heap) (hst : l.stackTraces = false) (hK : va_K D vwCl [(cI, .int), (cJ, .long)] s) {n : Nat} (ih : ∀ (v23_4 : Int32) (xr_23 : Int32) (xt_23 : Int32) (gn_23 : AA) (gu_23 : AA) (gb_23 : AA) (ga_23 : AA) (lc_23 : Int32) (lk_23 : AA) (ln_23 : AA) (lt_23 : AA) (ll_23 : AA) (lr_23 : AA) (tw_23 : Int32) (tn_23 : AA) (tt_23 : AA) (mr_23 : Int32) (mc_23 : Int32) (me_23 : Int32) (mw_23 : Int32) (mh_23 : Int32) (mn_23 : AA) (mu_23 : AA) (ms_23 : AA) (mt_23 : AA) (md_23 : AA) (mz_23 : AA) (mi_23 : AA) (mk_23 : AA) (mo_23 : AA) (mj_23 : AA) (ml_23 : AA) (oo_23 : LA) (kc ks : Nat), kc + n * 3 + 64 ≤ 601024 → ks + n * 18 + 64 ≤ 7293034 → p_L_law_L23 xs L n v23_4 xr_23 xt_23 gn_23 gu_23 gb_23 ga_23 lc_23 lk_23 ln_23 lt_23 ll_23 lr_23 tw_23 tn_23 tt_23 mr_23 mc_23 me_23 mw_23 mh_23 mn_23 mu_23 ms_23 mt_23 md_23 mz_23 mi_23 mk_23 mo_23 mj_23 ml_23 oo_23 → (1 : Int32) = f_L_law_L23 xs L n v23_4 xr_23 xt_23 gn_23 gu_23 gb_23 ga_23 lc_23 lk_23 ln_23 lt_23 ll_23 lr_23 tw_23 tn_23 tt_23 mr_23 mc_23 me_23 mw_23 mh_23 mn_23 mu_23 ms_23 mt_23 md_23 mz_23 mi_23 mk_23 mo_23 mj_23 ml_23 oo_23 → ∀ (H : Heap) (locs : List Loc), va_P D vwCl (W_L cI cJ q0 n1_0 n1_1 n1_2 n1_3 n1_4 n1_5 n1_6 n1_7 n1_8 n1_9 n1_10 n1_11 n1_12 n1_13 q8 n2_0 n2_1 n2_2 n2_3 n2_4 n2_5 n2_6 n2_7 n2_8 n2_9 n2_10 o0 xr_23 xt_23 gn_23 gu_23 gb_23 ga_23 lc_23 lk_23 ln_23 lt_23 ll_23 lr_23 tw_23 tn_23 tt_23 mr_23 mc_23 me_23 mw_23 mh_23 mn_23 mu_23 ms_23 mt_23 md_23 mz_23 mi_23 mk_23 mo_23 mj_23 ml_23 oo_23) H → va_D A (W_L cI cJ q0 n1_0 n1_1 n1_2 n1_3 n1_4 n1_5 n1_6 n1_7 n1_8 n1_9 n1_10 n1_11 n1_12 n1_13 q8 n2_0 n2_1 n2_2 n2_3 n2_4 n2_5 n2_6 n2_7 n2_8 n2_9 n2_10 o0 xr_23 xt_23 gn_23 gu_23 gb_23 ga_23 lc_23 lk_23 ln_23 lt_23 ll_23 lr_23 tw_23 tn_23 tt_23 mr_23 mc_23 me_23 mw_23 mh_23 mn_23 mu_23 ms_23 mt_23 md_23 mz_23 mi_23 mk_23 mo_23 mj_23 ml_23 oo_23) → va_S A s.heap H locs → ∀ ls : Array Slot, lv_has ls 7 [(4, .int v23_4), (3, .ref o0), (2, .ref q8), (1, .ref q0), (0, .ref b0)] → W p l e room_1 s m #[Value.ref b0] below meth c H locs kc ks (lw_Z below #[Value.ref b0] s) (F0 m 23 ls [])) (v23_4 : Int32) (xr_23 : Int32) (xt_23 : Int32) (gn_23 : AA) (gu_23 : AA) (gb_23 : AA) (ga_23 : AA) (lc_23 : Int32) (lk_23 : AA) (ln_23 : AA) (lt_23 : AA) (ll_23 : AA) (lr_23 : AA) (tw_23 : Int32) (tn_23 : AA) (tt_23 : AA) (mr_23 : Int32) (mc_23 : Int32) (me_23 : Int32) (mw_23 : Int32) (mh_23 : Int32) (mn_23 : AA) (mu_23 : AA) (ms_23 : AA) (mt_23 : AA) (md_23 : AA) (mz_23 : AA) (mi_23 : AA) (mk_23 : AA) (mo_23 : AA) (mj_23 : AA) (ml_23 : AA) (oo_23 : LA) (kc ks : Nat) (hkc : kc + (n + 1) * 3 + 64 ≤ 601024) (hks : ks + (n + 1) * 18 + 64 ≤ 7293034) (hp : p_L_c4 (p_L_law_L23 xs L n) xs L v23_4 xr_23 xt_23 gn_23 gu_23 gb_23 ga_23 lc_23 lk_23 ln_23 lt_23 ll_23 lr_23 tw_23 tn_23 tt_23 mr_23 mc_23 me_23 mw_23 mn_23 mu_23 ms_23 mt_23 md_23 mz_23 mi_23 mk_23 mo_23 mj_23 ml_23 oo_23) (he : (1 : Int32) = f_L_c4 (f_L_law_L23 xs L n) xs v23_4 xr_23 xt_23 gn_23 gu_23 gb_23 ga_23 lc_23 lk_23 ln_23 lt_23 ll_23 lr_23 tw_23 tn_23 tt_23 mr_23 mc_23 me_23 mw_23 mn_23 mu_23 ms_23 mt_23 md_23 mz_23 mi_23 mk_23 mo_23 mj_23 ml_23 oo_23) (H : Heap) (locs : List Loc) (hP : va_P D vwCl (W_L cI cJ q0 n1_0 n1_1 n1_2 n1_3 n1_4 n1_5 n1_6 n1_7 n1_8 n1_9 n1_10 n1_11 n1_12 n1_13 q8 n2_0 n2_1 n2_2 n2_3 n2_4 n2_5 n2_6 n2_7 n2_8 n2_9 n2_10 o0 xr_23 xt_23 gn_23 gu_23 gb_23 ga_23 lc_23 lk_23 ln_23 lt_23 ll_23 lr_23 tw_23 tn_23 tt_23 mr_23 mc_23 me_23 mw_23 mh_23 mn_23 mu_23 ms_23 mt_23 md_23 mz_23 mi_23 mk_23 mo_23 mj_23 ml_23 oo_23) H) (hD : va_D A (W_L cI cJ q0 n1_0 n1_1 n1_2 n1_3 n1_4 n1_5 n1_6 n1_7 n1_8 n1_9 n1_10 n1_11 n1_12 n1_13 q8 n2_0 n2_1 n2_2 n2_3 n2_4 n2_5 n2_6 n2_7 n2_8 n2_9 n2_10 o0 xr_23 xt_23 gn_23 gu_23 gb_23 ga_23 lc_23 lk_23 ln_23 lt_23 ll_23 lr_23 tw_23 tn_23 tt_23 mr_23 mc_23 me_23 mw_23 mh_23 mn_23 mu_23 ms_23 mt_23 md_23 mz_23 mi_23 mk_23 mo_23 mj_23 ml_23 oo_23)) (hS : va_S A s.heap H locs) (ls : Array Slot) (hl : lv_has ls 7 [(4, .int v23_4), (3, .ref o0), (2, .ref q8), (1, .ref q0), (0, .ref b0)]) : W p l e room_1 s m #[Value.ref b0] below meth c H locs kc ks (lw_Z below #[Value.ref b0] s) (F0 m 468 ls []) := by
  replace he := he.trans (f_L_c4.eq_1 ..)
  replace hp := Eq.mp (p_L_c4.eq_1 ..) hp
  refine lv_aload_n hx hb dL_law_468 rfl (lv_at hl 3 rfl) ?_
  refine lv_aload_n hx hb dL_law_469 rfl (lv_at hl 4 rfl) ?_
  refine lv_iload hx hb dL_law_470 (lv_at hl 0 rfl) ?_
  refine lv_iconst (v := 1) hx hb dL_law_472 (by decide) ?_
  refine lv_iadd hx hb dL_law_473 ?_
  have h58 := hp.1
  replace hp := hp.2
  refine va_sld hx hb hX hbl hbA hS h58 dL_law_474 ?_
  refine lv_aload_n hx hb dL_law_475 rfl (lv_at hl 1 rfl) ?_
  have hq59 := hp.1
  replace hp := hp.2
  refine k_ycalli (S := LA) (wc := (W_O cI cJ q0 n1_0 n1_1 n1_2 n1_3 n1_4 n1_5 n1_6 n1_7 n1_8 n1_9 n1_10 n1_11 n1_12 n1_13 o0 xr_23 xt_23 gn_23 gu_23 gb_23 ga_23 lc_23 lk_23 ln_23 lt_23 ll_23 lr_23 tw_23 tn_23 tt_23 oo_23)) (wr := (W_X5 cI q8 n2_0 n2_1 n2_2 n2_3 n2_4 n2_5 n2_6 n2_7 n2_8 n2_9 n2_10 mr_23 mc_23 me_23 mw_23 mh_23 mn_23 mu_23 ms_23 mt_23 md_23 mz_23 mi_23 mk_23 mo_23 mj_23 ml_23)) (w1 := fun u => (W_O cI cJ q0 n1_0 n1_1 n1_2 n1_3 n1_4 n1_5 n1_6 n1_7 n1_8 n1_9 n1_10 n1_11 n1_12 n1_13 o0 xr_23 xt_23 gn_23 gu_23 gb_23 ga_23 lc_23 lk_23 ln_23 lt_23 ll_23 lr_23 tw_23 tn_23 tt_23 u)) (fun u => (W_L cI cJ q0 n1_0 n1_1 n1_2 n1_3 n1_4 n1_5 n1_6 n1_7 n1_8 n1_9 n1_10 n1_11 n1_12 n1_13 q8 n2_0 n2_1 n2_2 n2_3 n2_4 n2_5 n2_6 n2_7 n2_8 n2_9 n2_10 o0 xr_23 xt_23 gn_23 gu_23 gb_23 ga_23 lc_23 lk_23 ln_23 lt_23 ll_23 lr_23 tw_23 tn_23 tt_23 mr_23 mc_23 me_23 mw_23 mh_23 mn_23 mu_23 ms_23 mt_23 md_23 mz_23 mi_23 mk_23 mo_23 mj_23 ml_23 u)) hP hK hD hN hXB hS hA [0, 1, 2, 3, 4, 5, 6, 7, 8, 9, 10, 11, 12, 13, 14, 27] [15, 16, 17, 18, 19, 20, 21, 22, 23, 24, 25, 26] rfl rfl (by decide) (by decide) (by decide) [12, 13, 14, 15, 16, 17, 18, 19, 20, 21, 22, 23, 24, 25, 26, 0, 1, 2, 3, 4, 5, 6, 7, 8, 9, 10, 11, 27] (by decide) (fun _ => rfl) (fun hg => vx_runSW (As := [.ref q0, .int (xs ((v23_4 + 1)).toNatClampNeg), .ref o0]) (rest := []) ⟨hx, hb, hml, hown, hts⟩ (c_L_height l D cI cJ q0 n1_0 n1_1 n1_2 n1_3 n1_4 n1_5 n1_6 n1_7 n1_8 n1_9 n1_10 n1_11 n1_12 n1_13 o0 xr_23 xt_23 gn_23 gu_23 gb_23 ga_23 lc_23 lk_23 ln_23 lt_23 ll_23 lr_23 tw_23 tn_23 tt_23 oo_23 _ (xs ((v23_4 + 1)).toNatClampNeg) hq59 hst) (vx_cwSW 3 hts gL_law_L_height rfl rfl rfl (by decide +kernel) ⟨Nat.le_of_ble_eq_true rfl, Nat.le_of_ble_eq_true rfl⟩) ⟨PX.blind, fun U hU hW => ⟨rfl, hg U hU hW⟩⟩ rfl rfl hl.1 rfl (lv_room ((by exact Nat.le_of_ble_eq_true rfl))) dL_law_476 ⟨(by show kc + 1 ≤ 601024; omega), (by show ks + 6 ≤ 7293034; omega)⟩) (fun r59 u H locs hw hP hD hS => ?_)
  obtain ⟨u59_0, rfl⟩ : ∃ z, z = u := ⟨_, rfl⟩
  rw [hw] at he
  try dsimp only at he
  replace hp := hp r59 u59_0 hw
  have hP : va_P D vwCl (W_L cI cJ q0 n1_0 n1_1 n1_2 n1_3 n1_4 n1_5 n1_6 n1_7 n1_8 n1_9 n1_10 n1_11 n1_12 n1_13 q8 n2_0 n2_1 n2_2 n2_3 n2_4 n2_5 n2_6 n2_7 n2_8 n2_9 n2_10 o0 xr_23 xt_23 gn_23 gu_23 gb_23 ga_23 lc_23 lk_23 ln_23 lt_23 ll_23 lr_23 tw_23 tn_23 tt_23 mr_23 mc_23 me_23 mw_23 mh_23 mn_23 mu_23 ms_23 mt_23 md_23 mz_23 mi_23 mk_23 mo_23 mj_23 ml_23 u59_0) H := hP
  have hD : va_D A (W_L cI cJ q0 n1_0 n1_1 n1_2 n1_3 n1_4 n1_5 n1_6 n1_7 n1_8 n1_9 n1_10 n1_11 n1_12 n1_13 q8 n2_0 n2_1 n2_2 n2_3 n2_4 n2_5 n2_6 n2_7 n2_8 n2_9 n2_10 o0 xr_23 xt_23 gn_23 gu_23 gb_23 ga_23 lc_23 lk_23 ln_23 lt_23 ll_23 lr_23 tw_23 tn_23 tt_23 mr_23 mc_23 me_23 mw_23 mh_23 mn_23 mu_23 ms_23 mt_23 md_23 mz_23 mi_23 mk_23 mo_23 mj_23 ml_23 u59_0) := hD
  refine lv_istore (lv' := [(5, .int r59), (4, .int v23_4), (3, .ref o0), (2, .ref q8), (1, .ref q0), (0, .ref b0)]) hx hb dL_law_479 hl (by decide) rfl (fun ls hl => ?_)
  refine lv_aload_n hx hb dL_law_481 rfl (lv_at hl 3 rfl) ?_
  refine lv_aload_n hx hb dL_law_482 rfl (lv_at hl 5 rfl) ?_
  refine lv_iload hx hb dL_law_483 (lv_at hl 1 rfl) ?_
  refine lv_iconst (v := 1) hx hb dL_law_485 (by decide) ?_
  refine lv_iadd hx hb dL_law_486 ?_
  have h60 := hp.1
  replace hp := hp.2
  refine va_sld hx hb hX hbl hbA hS h60 dL_law_487 ?_
  have hq61 := hp.1
  replace hp := hp.2
  refine k_calli (S := Int32) (wc := (W_X5 cI q8 n2_0 n2_1 n2_2 n2_3 n2_4 n2_5 n2_6 n2_7 n2_8 n2_9 n2_10 mr_23 mc_23 me_23 mw_23 mh_23 mn_23 mu_23 ms_23 mt_23 md_23 mz_23 mi_23 mk_23 mo_23 mj_23 ml_23)) (wr := (W_O cI cJ q0 n1_0 n1_1 n1_2 n1_3 n1_4 n1_5 n1_6 n1_7 n1_8 n1_9 n1_10 n1_11 n1_12 n1_13 o0 xr_23 xt_23 gn_23 gu_23 gb_23 ga_23 lc_23 lk_23 ln_23 lt_23 ll_23 lr_23 tw_23 tn_23 tt_23 u59_0)) (w1 := fun u => (W_X5 cI q8 n2_0 n2_1 n2_2 n2_3 n2_4 n2_5 n2_6 n2_7 n2_8 n2_9 n2_10 mr_23 mc_23 me_23 mw_23 u mn_23 mu_23 ms_23 mt_23 md_23 mz_23 mi_23 mk_23 mo_23 mj_23 ml_23)) (fun u => (W_L cI cJ q0 n1_0 n1_1 n1_2 n1_3 n1_4 n1_5 n1_6 n1_7 n1_8 n1_9 n1_10 n1_11 n1_12 n1_13 q8 n2_0 n2_1 n2_2 n2_3 n2_4 n2_5 n2_6 n2_7 n2_8 n2_9 n2_10 o0 xr_23 xt_23 gn_23 gu_23 gb_23 ga_23 lc_23 lk_23 ln_23 lt_23 ll_23 lr_23 tw_23 tn_23 tt_23 mr_23 mc_23 me_23 mw_23 u mn_23 mu_23 ms_23 mt_23 md_23 mz_23 mi_23 mk_23 mo_23 mj_23 ml_23 u59_0)) hP (hK.sub [0] rfl) hD hN hS hA [15, 16, 17, 18, 19, 20, 21, 22, 23, 24, 25, 26] [0, 1, 2, 3, 4, 5, 6, 7, 8, 9, 10, 11, 12, 13, 14, 27] rfl rfl (by decide) (by decide) (by decide) [0, 1, 2, 3, 4, 5, 6, 7, 8, 9, 10, 11, 12, 13, 14, 16, 17, 18, 19, 20, 21, 22, 23, 24, 25, 26, 27, 15] (by decide) (fun _ => rfl) (fun hg => va_runV (As := [.int (xs ((v23_4 + 1)).toNatClampNeg)]) (rest := []) ⟨hx, hb, hml, hown, hts⟩ (c_X5_height l D cI q8 n2_0 n2_1 n2_2 n2_3 n2_4 n2_5 n2_6 n2_7 n2_8 n2_9 n2_10 mr_23 mc_23 me_23 mw_23 mh_23 mn_23 mu_23 ms_23 mt_23 md_23 mz_23 mi_23 mk_23 mo_23 mj_23 ml_23 _ (xs ((v23_4 + 1)).toNatClampNeg) hq61) (cwV 1 hts gL_law_X5_height rfl rfl rfl (by decide +kernel) ⟨Nat.le_of_ble_eq_true rfl, Nat.le_of_ble_eq_true rfl⟩) ⟨PW.blind, va_recv hK hP (ci := 5) (q0 := 15) rfl rfl, fun U hU hW => ⟨rfl, hg U hU hW⟩⟩ rfl rfl hl.1 rfl (lv_room ((by exact Nat.le_of_ble_eq_true rfl))) dL_law_488 ⟨(by show (kc + 1) + 0 ≤ 601024; omega), (by show (ks + 6) + 0 ≤ 7293034; omega)⟩) (fun r61 u H locs hw hP hD hS => ?_)
  obtain ⟨u61_0, rfl⟩ : ∃ z, z = u := ⟨_, rfl⟩
  rw [hw] at he
  try dsimp only at he
  replace hp := hp r61 u61_0 hw
  have hP : va_P D vwCl (W_L cI cJ q0 n1_0 n1_1 n1_2 n1_3 n1_4 n1_5 n1_6 n1_7 n1_8 n1_9 n1_10 n1_11 n1_12 n1_13 q8 n2_0 n2_1 n2_2 n2_3 n2_4 n2_5 n2_6 n2_7 n2_8 n2_9 n2_10 o0 xr_23 xt_23 gn_23 gu_23 gb_23 ga_23 lc_23 lk_23 ln_23 lt_23 ll_23 lr_23 tw_23 tn_23 tt_23 mr_23 mc_23 me_23 mw_23 u61_0 mn_23 mu_23 ms_23 mt_23 md_23 mz_23 mi_23 mk_23 mo_23 mj_23 ml_23 u59_0) H := hP
  have hD : va_D A (W_L cI cJ q0 n1_0 n1_1 n1_2 n1_3 n1_4 n1_5 n1_6 n1_7 n1_8 n1_9 n1_10 n1_11 n1_12 n1_13 q8 n2_0 n2_1 n2_2 n2_3 n2_4 n2_5 n2_6 n2_7 n2_8 n2_9 n2_10 o0 xr_23 xt_23 gn_23 gu_23 gb_23 ga_23 lc_23 lk_23 ln_23 lt_23 ll_23 lr_23 tw_23 tn_23 tt_23 mr_23 mc_23 me_23 mw_23 u61_0 mn_23 mu_23 ms_23 mt_23 md_23 mz_23 mi_23 mk_23 mo_23 mj_23 ml_23 u59_0) := hD
  refine lv_istore (lv' := [(6, .int r61), (5, .int r59), (4, .int v23_4), (3, .ref o0), (2, .ref q8), (1, .ref q0), (0, .ref b0)]) hx hb dL_law_491 hl (by decide) rfl (fun ls hl => ?_)
  refine lv_aload_n hx hb dL_law_493 rfl (lv_at hl 4 rfl) ?_
  refine k_calli (S := Unit) (wc := (W_X5 cI q8 n2_0 n2_1 n2_2 n2_3 n2_4 n2_5 n2_6 n2_7 n2_8 n2_9 n2_10 mr_23 mc_23 me_23 mw_23 u61_0 mn_23 mu_23 ms_23 mt_23 md_23 mz_23 mi_23 mk_23 mo_23 mj_23 ml_23)) (wr := (W_O cI cJ q0 n1_0 n1_1 n1_2 n1_3 n1_4 n1_5 n1_6 n1_7 n1_8 n1_9 n1_10 n1_11 n1_12 n1_13 o0 xr_23 xt_23 gn_23 gu_23 gb_23 ga_23 lc_23 lk_23 ln_23 lt_23 ll_23 lr_23 tw_23 tn_23 tt_23 u59_0)) (w1 := fun u => (W_X5 cI q8 n2_0 n2_1 n2_2 n2_3 n2_4 n2_5 n2_6 n2_7 n2_8 n2_9 n2_10 mr_23 mc_23 me_23 mw_23 u61_0 mn_23 mu_23 ms_23 mt_23 md_23 mz_23 mi_23 mk_23 mo_23 mj_23 ml_23)) (fun u => (W_L cI cJ q0 n1_0 n1_1 n1_2 n1_3 n1_4 n1_5 n1_6 n1_7 n1_8 n1_9 n1_10 n1_11 n1_12 n1_13 q8 n2_0 n2_1 n2_2 n2_3 n2_4 n2_5 n2_6 n2_7 n2_8 n2_9 n2_10 o0 xr_23 xt_23 gn_23 gu_23 gb_23 ga_23 lc_23 lk_23 ln_23 lt_23 ll_23 lr_23 tw_23 tn_23 tt_23 mr_23 mc_23 me_23 mw_23 u61_0 mn_23 mu_23 ms_23 mt_23 md_23 mz_23 mi_23 mk_23 mo_23 mj_23 ml_23 u59_0)) hP (hK.sub [0] rfl) hD hN hS hA [15, 16, 17, 18, 19, 20, 21, 22, 23, 24, 25, 26] [0, 1, 2, 3, 4, 5, 6, 7, 8, 9, 10, 11, 12, 13, 14, 27] rfl rfl (by decide) (by decide) (by decide) [0, 1, 2, 3, 4, 5, 6, 7, 8, 9, 10, 11, 12, 13, 14, 16, 17, 18, 19, 20, 21, 22, 23, 24, 25, 26, 27, 15] (by decide) (fun _ => rfl) (fun hg => va_runV (As := []) (rest := []) ⟨hx, hb, hml, hown, hts⟩ (c_X5_thrown l D cI q8 n2_0 n2_1 n2_2 n2_3 n2_4 n2_5 n2_6 n2_7 n2_8 n2_9 n2_10 mr_23 mc_23 me_23 mw_23 u61_0 mn_23 mu_23 ms_23 mt_23 md_23 mz_23 mi_23 mk_23 mo_23 mj_23 ml_23 _ ) (cwV 0 hts gL_law_X5_thrown rfl rfl rfl (by decide +kernel) ⟨Nat.le_of_ble_eq_true rfl, Nat.le_of_ble_eq_true rfl⟩) ⟨PW.blind, va_recv hK hP (ci := 5) (q0 := 15) rfl rfl, fun U hU hW => ⟨rfl, hg U hU hW⟩⟩ rfl rfl hl.1 rfl (lv_room ((by exact Nat.le_of_ble_eq_true rfl))) dL_law_494 ⟨(by show (kc + 1) + 0 ≤ 601024; omega), (by show (ks + 6) + 0 ≤ 7293034; omega)⟩) (fun r62 u H locs hw hP hD hS => ?_)
  subst hw
  refine lv_iload hx hb dL_law_497 (lv_at hl 1 rfl) ?_
  refine lv_icmp_eq (tgt := 504) hx hb dL_law_499 (by decide) (fun c63 => ?_) (fun c63 => ?_)
  · replace hp := hp.1 c63
    replace he := he.trans (if_pos c63)
    refine lv_iload hx hb dL_law_504 (lv_at hl 1 rfl) ?_
    refine lv_if_ne (tgt := 521) hx hb dL_law_506 (by decide) (fun c64 => ?_) (fun c64 => ?_)
    · replace hp := hp.2 c64
      replace he := he.trans (if_neg c64)
      refine lv_goto (tgt := 1579) hx hb dL_law_521 (by decide) ?_
      refine lv_iinc (v := (v23_4 + 3)) (lv' := [(4, .int (v23_4 + 3)), (6, .int r61), (5, .int r59), (3, .ref o0), (2, .ref q8), (1, .ref q0), (0, .ref b0)]) hx hb dL_law_1579 hl (k := 2) rfl rfl (by decide) rfl (fun ls hl => ?_)
      refine lv_goto (tgt := 23) hx hb dL_law_1582 (by decide) ?_
      refine W.widen (k := kc + 3) (n := ks + 18) (by omega) (by omega) ?_
      exact ih _ _ _ _ _ _ _ _ _ _ _ _ _ _ _ _ _ _ _ _ _ _ _ _ _ _ _ _ _ _ _ _ _ (kc + 3) (ks + 18) (by omega) (by omega) hp he _ _ hP hD hS _ (lv_sub hl [0, 3, 4, 5, 6] rfl)
    · replace hp := hp.1 c64
      replace he := he.trans (if_pos c64)
      refine lv_aload_n hx hb dL_law_509 rfl (lv_at hl 3 rfl) ?_
      refine lv_iconst (v := 0) hx hb dL_law_510 (by decide) ?_
      refine va_lald hx hb hK hP 27 1 rfl rfl (by unfold vp_in; decide) dL_law_511 ?_
      refine lv_iload hx hb dL_law_512 (lv_at hl 0 rfl) ?_
      refine lv_i2l (v := (r61).toInt64) hx hb dL_law_514 rfl ?_
      refine W.lcmp hx hb dL_law_515 ?_
      refine lv_if_eq (tgt := 521) hx hb dL_law_516 (by decide) (fun c66 => ?_) (fun c66 => ?_)
      · replace hp := hp.1 c66
        replace he := he.trans (if_pos c66)
        refine lv_goto (tgt := 1579) hx hb dL_law_521 (by decide) ?_
        refine lv_iinc (v := (v23_4 + 3)) (lv' := [(4, .int (v23_4 + 3)), (6, .int r61), (5, .int r59), (3, .ref o0), (2, .ref q8), (1, .ref q0), (0, .ref b0)]) hx hb dL_law_1579 hl (k := 2) rfl rfl (by decide) rfl (fun ls hl => ?_)
        refine lv_goto (tgt := 23) hx hb dL_law_1582 (by decide) ?_
        refine W.widen (k := kc + 3) (n := ks + 18) (by omega) (by omega) ?_
        exact ih _ _ _ _ _ _ _ _ _ _ _ _ _ _ _ _ _ _ _ _ _ _ _ _ _ _ _ _ _ _ _ _ _ (kc + 3) (ks + 18) (by omega) (by omega) hp he _ _ hP hD hS _ (lv_sub hl [0, 3, 4, 5, 6] rfl)
      · replace hp := hp.2 c66
        replace he := he.trans (if_neg c66)
        refine lv_iconst (v := 0) hx hb dL_law_519 (by decide) ?_
        exact absurd he (by decide)
  · replace hp := hp.2 c63
    replace he := he.trans (if_neg c63)
    refine lv_iconst (v := 0) hx hb dL_law_502 (by decide) ?_
    exact absurd he (by decide)
set_option maxHeartbeats 8000000 in
set_option maxRecDepth 100000 in
theorem law_c10 {p : Program} {l : Launch} {e : Env} {s : State} {m : MethodId} {below : List Frame} {meth : Method} {c : Code} {D : va_G} {cI cJ : ClassId} {b0 L : Nat} {xs : Nat → Int32} {A : Nat → Prop} {q0 n1_0 n1_1 n1_2 n1_3 n1_4 n1_5 n1_6 n1_7 n1_8 n1_9 n1_10 n1_11 n1_12 n1_13 q8 n2_0 n2_1 n2_2 n2_3 n2_4 n2_5 n2_6 n2_7 n2_8 n2_9 n2_10 o0 : Nat} (hx : p.tables.exec = Jvm.exec) (hb : c.code = code) (hr : meth.sig.returnType = ret) (hml : c.maxLocals = 7) (hown : s.vm.findClass RL = some m.cls) (hts : ∀ w ∈ wsL_law, w.before #[Value.ref b0] s = true) (hX : va_X b0 L xs s s.heap) (hbl : b0 < s.heap.size) (hlocks : meth.locks = false) (hbA : ¬ A b0) (hA : ∀ q : Nat, s.heap.size ≤ q → A q) (hAle : ∀ q : Nat, A q → s.heap.size ≤ q) (hN : NB s) (hXB : XB A s s.heap) (hst : l.stackTraces = false) (hK : va_K D vwCl [(cI, .int), (cJ, .long)] s) {n : Nat} (ih : ∀ (v23_4 : Int32) (xr_23 : Int32) (xt_23 : Int32) (gn_23 : AA) (gu_23 : AA) (gb_23 : AA) (ga_23 : AA) (lc_23 : Int32) (lk_23 : AA) (ln_23 : AA) (lt_23 : AA) (ll_23 : AA) (lr_23 : AA) (tw_23 : Int32) (tn_23 : AA) (tt_23 : AA) (mr_23 : Int32) (mc_23 : Int32) (me_23 : Int32) (mw_23 : Int32) (mh_23 : Int32) (mn_23 : AA) (mu_23 : AA) (ms_23 : AA) (mt_23 : AA) (md_23 : AA) (mz_23 : AA) (mi_23 : AA) (mk_23 : AA) (mo_23 : AA) (mj_23 : AA) (ml_23 : AA) (oo_23 : LA) (kc ks : Nat), kc + n * 3 + 64 ≤ 601024 → ks + n * 18 + 64 ≤ 7293034 → p_L_law_L23 xs L n v23_4 xr_23 xt_23 gn_23 gu_23 gb_23 ga_23 lc_23 lk_23 ln_23 lt_23 ll_23 lr_23 tw_23 tn_23 tt_23 mr_23 mc_23 me_23 mw_23 mh_23 mn_23 mu_23 ms_23 mt_23 md_23 mz_23 mi_23 mk_23 mo_23 mj_23 ml_23 oo_23 → (1 : Int32) = f_L_law_L23 xs L n v23_4 xr_23 xt_23 gn_23 gu_23 gb_23 ga_23 lc_23 lk_23 ln_23 lt_23 ll_23 lr_23 tw_23 tn_23 tt_23 mr_23 mc_23 me_23 mw_23 mh_23 mn_23 mu_23 ms_23 mt_23 md_23 mz_23 mi_23 mk_23 mo_23 mj_23 ml_23 oo_23 → ∀ (H : Heap) (locs : List Loc), va_P D vwCl (W_L cI cJ q0 n1_0 n1_1 n1_2 n1_3 n1_4 n1_5 n1_6 n1_7 n1_8 n1_9 n1_10 n1_11 n1_12 n1_13 q8 n2_0 n2_1 n2_2 n2_3 n2_4 n2_5 n2_6 n2_7 n2_8 n2_9 n2_10 o0 xr_23 xt_23 gn_23 gu_23 gb_23 ga_23 lc_23 lk_23 ln_23 lt_23 ll_23 lr_23 tw_23 tn_23 tt_23 mr_23 mc_23 me_23 mw_23 mh_23 mn_23 mu_23 ms_23 mt_23 md_23 mz_23 mi_23 mk_23 mo_23 mj_23 ml_23 oo_23) H → va_D A (W_L cI cJ q0 n1_0 n1_1 n1_2 n1_3 n1_4 n1_5 n1_6 n1_7 n1_8 n1_9 n1_10 n1_11 n1_12 n1_13 q8 n2_0 n2_1 n2_2 n2_3 n2_4 n2_5 n2_6 n2_7 n2_8 n2_9 n2_10 o0 xr_23 xt_23 gn_23 gu_23 gb_23 ga_23 lc_23 lk_23 ln_23 lt_23 ll_23 lr_23 tw_23 tn_23 tt_23 mr_23 mc_23 me_23 mw_23 mh_23 mn_23 mu_23 ms_23 mt_23 md_23 mz_23 mi_23 mk_23 mo_23 mj_23 ml_23 oo_23) → va_S A s.heap H locs → ∀ ls : Array Slot, lv_has ls 7 [(4, .int v23_4), (3, .ref o0), (2, .ref q8), (1, .ref q0), (0, .ref b0)] → W p l e room_1 s m #[Value.ref b0] below meth c H locs kc ks (lw_Z below #[Value.ref b0] s) (F0 m 23 ls [])) (v23_4 : Int32) (xr_23 : Int32) (xt_23 : Int32) (gn_23 : AA) (gu_23 : AA) (gb_23 : AA) (ga_23 : AA) (lc_23 : Int32) (lk_23 : AA) (ln_23 : AA) (lt_23 : AA) (ll_23 : AA) (lr_23 : AA) (tw_23 : Int32) (tn_23 : AA) (tt_23 : AA) (mr_23 : Int32) (mc_23 : Int32) (me_23 : Int32) (mw_23 : Int32) (mh_23 : Int32) (mn_23 : AA) (mu_23 : AA) (ms_23 : AA) (mt_23 : AA) (md_23 : AA) (mz_23 : AA) (mi_23 : AA) (mk_23 : AA) (mo_23 : AA) (mj_23 : AA) (ml_23 : AA) (oo_23 : LA) (kc ks : Nat) (hkc : kc + (n + 1) * 3 + 64 ≤ 601024) (hks : ks + (n + 1) * 18 + 64 ≤ 7293034) (hp : p_L_c10 (p_L_law_L23 xs L n) xs L v23_4 xr_23 xt_23 gn_23 gu_23 gb_23 ga_23 lc_23 lk_23 ln_23 lt_23 ll_23 lr_23 tw_23 tn_23 tt_23 mr_23 mc_23 me_23 mw_23 mn_23 mu_23 ms_23 mt_23 md_23 mz_23 mi_23 mk_23 mo_23 mj_23 ml_23 oo_23) (he : (1 : Int32) = f_L_c10 (f_L_law_L23 xs L n) xs v23_4 xr_23 xt_23 gn_23 gu_23 gb_23 ga_23 lc_23 lk_23 ln_23 lt_23 ll_23 lr_23 tw_23 tn_23 tt_23 mr_23 mc_23 me_23 mw_23 mn_23 mu_23 ms_23 mt_23 md_23 mz_23 mi_23 mk_23 mo_23 mj_23 ml_23 oo_23) (H : Heap) (locs : List Loc) (hP : va_P D vwCl (W_L cI cJ q0 n1_0 n1_1 n1_2 n1_3 n1_4 n1_5 n1_6 n1_7 n1_8 n1_9 n1_10 n1_11 n1_12 n1_13 q8 n2_0 n2_1 n2_2 n2_3 n2_4 n2_5 n2_6 n2_7 n2_8 n2_9 n2_10 o0 xr_23 xt_23 gn_23 gu_23 gb_23 ga_23 lc_23 lk_23 ln_23 lt_23 ll_23 lr_23 tw_23 tn_23 tt_23 mr_23 mc_23 me_23 mw_23 mh_23 mn_23 mu_23 ms_23 mt_23 md_23 mz_23 mi_23 mk_23 mo_23 mj_23 ml_23 oo_23) H) (hD : va_D A (W_L cI cJ q0 n1_0 n1_1 n1_2 n1_3 n1_4 n1_5 n1_6 n1_7 n1_8 n1_9 n1_10 n1_11 n1_12 n1_13 q8 n2_0 n2_1 n2_2 n2_3 n2_4 n2_5 n2_6 n2_7 n2_8 n2_9 n2_10 o0 xr_23 xt_23 gn_23 gu_23 gb_23 ga_23 lc_23 lk_23 ln_23 lt_23 ll_23 lr_23 tw_23 tn_23 tt_23 mr_23 mc_23 me_23 mw_23 mh_23 mn_23 mu_23 ms_23 mt_23 md_23 mz_23 mi_23 mk_23 mo_23 mj_23 ml_23 oo_23)) (hS : va_S A s.heap H locs) (ls : Array Slot) (hl : lv_has ls 7 [(4, .int v23_4), (3, .ref o0), (2, .ref q8), (1, .ref q0), (0, .ref b0)]) : W p l e room_1 s m #[Value.ref b0] below meth c H locs kc ks (lw_Z below #[Value.ref b0] s) (F0 m 761 ls []) := by
  replace he := he.trans (f_L_c10.eq_1 ..)
  replace hp := Eq.mp (p_L_c10.eq_1 ..) hp
  refine lv_aload_n hx hb dL_law_761 rfl (lv_at hl 3 rfl) ?_
  refine lv_aload_n hx hb dL_law_762 rfl (lv_at hl 4 rfl) ?_
  refine lv_iload hx hb dL_law_763 (lv_at hl 0 rfl) ?_
  refine lv_iconst (v := 1) hx hb dL_law_765 (by decide) ?_
  refine lv_iadd hx hb dL_law_766 ?_
  have h106 := hp.1
  replace hp := hp.2
  refine va_sld hx hb hX hbl hbA hS h106 dL_law_767 ?_
  refine lv_aload_n hx hb dL_law_768 rfl (lv_at hl 1 rfl) ?_
  have hq107 := hp.1
  replace hp := hp.2
  refine k_ycalli (S := LA) (wc := (W_O cI cJ q0 n1_0 n1_1 n1_2 n1_3 n1_4 n1_5 n1_6 n1_7 n1_8 n1_9 n1_10 n1_11 n1_12 n1_13 o0 xr_23 xt_23 gn_23 gu_23 gb_23 ga_23 lc_23 lk_23 ln_23 lt_23 ll_23 lr_23 tw_23 tn_23 tt_23 oo_23)) (wr := (W_X5 cI q8 n2_0 n2_1 n2_2 n2_3 n2_4 n2_5 n2_6 n2_7 n2_8 n2_9 n2_10 mr_23 mc_23 me_23 mw_23 mh_23 mn_23 mu_23 ms_23 mt_23 md_23 mz_23 mi_23 mk_23 mo_23 mj_23 ml_23)) (w1 := fun u => (W_O cI cJ q0 n1_0 n1_1 n1_2 n1_3 n1_4 n1_5 n1_6 n1_7 n1_8 n1_9 n1_10 n1_11 n1_12 n1_13 o0 xr_23 xt_23 gn_23 gu_23 gb_23 ga_23 lc_23 lk_23 ln_23 lt_23 ll_23 lr_23 tw_23 tn_23 tt_23 u)) (fun u => (W_L cI cJ q0 n1_0 n1_1 n1_2 n1_3 n1_4 n1_5 n1_6 n1_7 n1_8 n1_9 n1_10 n1_11 n1_12 n1_13 q8 n2_0 n2_1 n2_2 n2_3 n2_4 n2_5 n2_6 n2_7 n2_8 n2_9 n2_10 o0 xr_23 xt_23 gn_23 gu_23 gb_23 ga_23 lc_23 lk_23 ln_23 lt_23 ll_23 lr_23 tw_23 tn_23 tt_23 mr_23 mc_23 me_23 mw_23 mh_23 mn_23 mu_23 ms_23 mt_23 md_23 mz_23 mi_23 mk_23 mo_23 mj_23 ml_23 u)) hP hK hD hN hXB hS hA [0, 1, 2, 3, 4, 5, 6, 7, 8, 9, 10, 11, 12, 13, 14, 27] [15, 16, 17, 18, 19, 20, 21, 22, 23, 24, 25, 26] rfl rfl (by decide) (by decide) (by decide) [12, 13, 14, 15, 16, 17, 18, 19, 20, 21, 22, 23, 24, 25, 26, 0, 1, 2, 3, 4, 5, 6, 7, 8, 9, 10, 11, 27] (by decide) (fun _ => rfl) (fun hg => vx_runSW (As := [.ref q0, .int (xs ((v23_4 + 1)).toNatClampNeg), .ref o0]) (rest := []) ⟨hx, hb, hml, hown, hts⟩ (c_L_nodesThatAre l D cI cJ q0 n1_0 n1_1 n1_2 n1_3 n1_4 n1_5 n1_6 n1_7 n1_8 n1_9 n1_10 n1_11 n1_12 n1_13 o0 xr_23 xt_23 gn_23 gu_23 gb_23 ga_23 lc_23 lk_23 ln_23 lt_23 ll_23 lr_23 tw_23 tn_23 tt_23 oo_23 _ (xs ((v23_4 + 1)).toNatClampNeg) hq107 hst) (vx_cwSW 3 hts gL_law_L_nodesThatAre rfl rfl rfl (by decide +kernel) ⟨Nat.le_of_ble_eq_true rfl, Nat.le_of_ble_eq_true rfl⟩) ⟨PX.blind, fun U hU hW => ⟨rfl, hg U hU hW⟩⟩ rfl rfl hl.1 rfl (lv_room ((by exact Nat.le_of_ble_eq_true rfl))) dL_law_769 ⟨(by show kc + 1 ≤ 601024; omega), (by show ks + 6 ≤ 7293034; omega)⟩) (fun r107 u H locs hw hP hD hS => ?_)
  obtain ⟨u107_0, rfl⟩ : ∃ z, z = u := ⟨_, rfl⟩
  rw [hw] at he
  try dsimp only at he
  replace hp := hp r107 u107_0 hw
  have hP : va_P D vwCl (W_L cI cJ q0 n1_0 n1_1 n1_2 n1_3 n1_4 n1_5 n1_6 n1_7 n1_8 n1_9 n1_10 n1_11 n1_12 n1_13 q8 n2_0 n2_1 n2_2 n2_3 n2_4 n2_5 n2_6 n2_7 n2_8 n2_9 n2_10 o0 xr_23 xt_23 gn_23 gu_23 gb_23 ga_23 lc_23 lk_23 ln_23 lt_23 ll_23 lr_23 tw_23 tn_23 tt_23 mr_23 mc_23 me_23 mw_23 mh_23 mn_23 mu_23 ms_23 mt_23 md_23 mz_23 mi_23 mk_23 mo_23 mj_23 ml_23 u107_0) H := hP
  have hD : va_D A (W_L cI cJ q0 n1_0 n1_1 n1_2 n1_3 n1_4 n1_5 n1_6 n1_7 n1_8 n1_9 n1_10 n1_11 n1_12 n1_13 q8 n2_0 n2_1 n2_2 n2_3 n2_4 n2_5 n2_6 n2_7 n2_8 n2_9 n2_10 o0 xr_23 xt_23 gn_23 gu_23 gb_23 ga_23 lc_23 lk_23 ln_23 lt_23 ll_23 lr_23 tw_23 tn_23 tt_23 mr_23 mc_23 me_23 mw_23 mh_23 mn_23 mu_23 ms_23 mt_23 md_23 mz_23 mi_23 mk_23 mo_23 mj_23 ml_23 u107_0) := hD
  refine lv_istore (lv' := [(5, .int r107), (4, .int v23_4), (3, .ref o0), (2, .ref q8), (1, .ref q0), (0, .ref b0)]) hx hb dL_law_772 hl (by decide) rfl (fun ls hl => ?_)
  refine lv_aload_n hx hb dL_law_774 rfl (lv_at hl 3 rfl) ?_
  refine lv_aload_n hx hb dL_law_775 rfl (lv_at hl 5 rfl) ?_
  refine lv_iload hx hb dL_law_776 (lv_at hl 1 rfl) ?_
  refine lv_iconst (v := 1) hx hb dL_law_778 (by decide) ?_
  refine lv_iadd hx hb dL_law_779 ?_
  have h108 := hp.1
  replace hp := hp.2
  refine va_sld hx hb hX hbl hbA hS h108 dL_law_780 ?_
  have hq109 := hp.1
  replace hp := hp.2
  refine k_calli (S := Int32) (wc := (W_X5 cI q8 n2_0 n2_1 n2_2 n2_3 n2_4 n2_5 n2_6 n2_7 n2_8 n2_9 n2_10 mr_23 mc_23 me_23 mw_23 mh_23 mn_23 mu_23 ms_23 mt_23 md_23 mz_23 mi_23 mk_23 mo_23 mj_23 ml_23)) (wr := (W_O cI cJ q0 n1_0 n1_1 n1_2 n1_3 n1_4 n1_5 n1_6 n1_7 n1_8 n1_9 n1_10 n1_11 n1_12 n1_13 o0 xr_23 xt_23 gn_23 gu_23 gb_23 ga_23 lc_23 lk_23 ln_23 lt_23 ll_23 lr_23 tw_23 tn_23 tt_23 u107_0)) (w1 := fun u => (W_X5 cI q8 n2_0 n2_1 n2_2 n2_3 n2_4 n2_5 n2_6 n2_7 n2_8 n2_9 n2_10 mr_23 mc_23 me_23 mw_23 u mn_23 mu_23 ms_23 mt_23 md_23 mz_23 mi_23 mk_23 mo_23 mj_23 ml_23)) (fun u => (W_L cI cJ q0 n1_0 n1_1 n1_2 n1_3 n1_4 n1_5 n1_6 n1_7 n1_8 n1_9 n1_10 n1_11 n1_12 n1_13 q8 n2_0 n2_1 n2_2 n2_3 n2_4 n2_5 n2_6 n2_7 n2_8 n2_9 n2_10 o0 xr_23 xt_23 gn_23 gu_23 gb_23 ga_23 lc_23 lk_23 ln_23 lt_23 ll_23 lr_23 tw_23 tn_23 tt_23 mr_23 mc_23 me_23 mw_23 u mn_23 mu_23 ms_23 mt_23 md_23 mz_23 mi_23 mk_23 mo_23 mj_23 ml_23 u107_0)) hP (hK.sub [0] rfl) hD hN hS hA [15, 16, 17, 18, 19, 20, 21, 22, 23, 24, 25, 26] [0, 1, 2, 3, 4, 5, 6, 7, 8, 9, 10, 11, 12, 13, 14, 27] rfl rfl (by decide) (by decide) (by decide) [0, 1, 2, 3, 4, 5, 6, 7, 8, 9, 10, 11, 12, 13, 14, 16, 17, 18, 19, 20, 21, 22, 23, 24, 25, 26, 27, 15] (by decide) (fun _ => rfl) (fun hg => va_runV (As := [.int (xs ((v23_4 + 1)).toNatClampNeg)]) (rest := []) ⟨hx, hb, hml, hown, hts⟩ (c_X5_nodesThatAre l D cI q8 n2_0 n2_1 n2_2 n2_3 n2_4 n2_5 n2_6 n2_7 n2_8 n2_9 n2_10 mr_23 mc_23 me_23 mw_23 mh_23 mn_23 mu_23 ms_23 mt_23 md_23 mz_23 mi_23 mk_23 mo_23 mj_23 ml_23 _ (xs ((v23_4 + 1)).toNatClampNeg) hq109) (cwV 1 hts gL_law_X5_nodesThatAre rfl rfl rfl (by decide +kernel) ⟨Nat.le_of_ble_eq_true rfl, Nat.le_of_ble_eq_true rfl⟩) ⟨PW.blind, va_recv hK hP (ci := 5) (q0 := 15) rfl rfl, fun U hU hW => ⟨rfl, hg U hU hW⟩⟩ rfl rfl hl.1 rfl (lv_room ((by exact Nat.le_of_ble_eq_true rfl))) dL_law_781 ⟨(by show (kc + 1) + 0 ≤ 601024; omega), (by show (ks + 6) + 0 ≤ 7293034; omega)⟩) (fun r109 u H locs hw hP hD hS => ?_)
  obtain ⟨u109_0, rfl⟩ : ∃ z, z = u := ⟨_, rfl⟩
  rw [hw] at he
  try dsimp only at he
  replace hp := hp r109 u109_0 hw
  have hP : va_P D vwCl (W_L cI cJ q0 n1_0 n1_1 n1_2 n1_3 n1_4 n1_5 n1_6 n1_7 n1_8 n1_9 n1_10 n1_11 n1_12 n1_13 q8 n2_0 n2_1 n2_2 n2_3 n2_4 n2_5 n2_6 n2_7 n2_8 n2_9 n2_10 o0 xr_23 xt_23 gn_23 gu_23 gb_23 ga_23 lc_23 lk_23 ln_23 lt_23 ll_23 lr_23 tw_23 tn_23 tt_23 mr_23 mc_23 me_23 mw_23 u109_0 mn_23 mu_23 ms_23 mt_23 md_23 mz_23 mi_23 mk_23 mo_23 mj_23 ml_23 u107_0) H := hP
  have hD : va_D A (W_L cI cJ q0 n1_0 n1_1 n1_2 n1_3 n1_4 n1_5 n1_6 n1_7 n1_8 n1_9 n1_10 n1_11 n1_12 n1_13 q8 n2_0 n2_1 n2_2 n2_3 n2_4 n2_5 n2_6 n2_7 n2_8 n2_9 n2_10 o0 xr_23 xt_23 gn_23 gu_23 gb_23 ga_23 lc_23 lk_23 ln_23 lt_23 ll_23 lr_23 tw_23 tn_23 tt_23 mr_23 mc_23 me_23 mw_23 u109_0 mn_23 mu_23 ms_23 mt_23 md_23 mz_23 mi_23 mk_23 mo_23 mj_23 ml_23 u107_0) := hD
  refine lv_istore (lv' := [(6, .int r109), (5, .int r107), (4, .int v23_4), (3, .ref o0), (2, .ref q8), (1, .ref q0), (0, .ref b0)]) hx hb dL_law_784 hl (by decide) rfl (fun ls hl => ?_)
  refine lv_aload_n hx hb dL_law_786 rfl (lv_at hl 4 rfl) ?_
  refine k_calli (S := Unit) (wc := (W_X5 cI q8 n2_0 n2_1 n2_2 n2_3 n2_4 n2_5 n2_6 n2_7 n2_8 n2_9 n2_10 mr_23 mc_23 me_23 mw_23 u109_0 mn_23 mu_23 ms_23 mt_23 md_23 mz_23 mi_23 mk_23 mo_23 mj_23 ml_23)) (wr := (W_O cI cJ q0 n1_0 n1_1 n1_2 n1_3 n1_4 n1_5 n1_6 n1_7 n1_8 n1_9 n1_10 n1_11 n1_12 n1_13 o0 xr_23 xt_23 gn_23 gu_23 gb_23 ga_23 lc_23 lk_23 ln_23 lt_23 ll_23 lr_23 tw_23 tn_23 tt_23 u107_0)) (w1 := fun u => (W_X5 cI q8 n2_0 n2_1 n2_2 n2_3 n2_4 n2_5 n2_6 n2_7 n2_8 n2_9 n2_10 mr_23 mc_23 me_23 mw_23 u109_0 mn_23 mu_23 ms_23 mt_23 md_23 mz_23 mi_23 mk_23 mo_23 mj_23 ml_23)) (fun u => (W_L cI cJ q0 n1_0 n1_1 n1_2 n1_3 n1_4 n1_5 n1_6 n1_7 n1_8 n1_9 n1_10 n1_11 n1_12 n1_13 q8 n2_0 n2_1 n2_2 n2_3 n2_4 n2_5 n2_6 n2_7 n2_8 n2_9 n2_10 o0 xr_23 xt_23 gn_23 gu_23 gb_23 ga_23 lc_23 lk_23 ln_23 lt_23 ll_23 lr_23 tw_23 tn_23 tt_23 mr_23 mc_23 me_23 mw_23 u109_0 mn_23 mu_23 ms_23 mt_23 md_23 mz_23 mi_23 mk_23 mo_23 mj_23 ml_23 u107_0)) hP (hK.sub [0] rfl) hD hN hS hA [15, 16, 17, 18, 19, 20, 21, 22, 23, 24, 25, 26] [0, 1, 2, 3, 4, 5, 6, 7, 8, 9, 10, 11, 12, 13, 14, 27] rfl rfl (by decide) (by decide) (by decide) [0, 1, 2, 3, 4, 5, 6, 7, 8, 9, 10, 11, 12, 13, 14, 16, 17, 18, 19, 20, 21, 22, 23, 24, 25, 26, 27, 15] (by decide) (fun _ => rfl) (fun hg => va_runV (As := []) (rest := []) ⟨hx, hb, hml, hown, hts⟩ (c_X5_thrown l D cI q8 n2_0 n2_1 n2_2 n2_3 n2_4 n2_5 n2_6 n2_7 n2_8 n2_9 n2_10 mr_23 mc_23 me_23 mw_23 u109_0 mn_23 mu_23 ms_23 mt_23 md_23 mz_23 mi_23 mk_23 mo_23 mj_23 ml_23 _ ) (cwV 0 hts gL_law_X5_thrown rfl rfl rfl (by decide +kernel) ⟨Nat.le_of_ble_eq_true rfl, Nat.le_of_ble_eq_true rfl⟩) ⟨PW.blind, va_recv hK hP (ci := 5) (q0 := 15) rfl rfl, fun U hU hW => ⟨rfl, hg U hU hW⟩⟩ rfl rfl hl.1 rfl (lv_room ((by exact Nat.le_of_ble_eq_true rfl))) dL_law_787 ⟨(by show (kc + 1) + 0 ≤ 601024; omega), (by show (ks + 6) + 0 ≤ 7293034; omega)⟩) (fun r110 u H locs hw hP hD hS => ?_)
  subst hw
  refine lv_iload hx hb dL_law_790 (lv_at hl 1 rfl) ?_
  refine lv_icmp_eq (tgt := 797) hx hb dL_law_792 (by decide) (fun c111 => ?_) (fun c111 => ?_)
  · replace hp := hp.1 c111
    replace he := he.trans (if_pos c111)
    refine lv_iload hx hb dL_law_797 (lv_at hl 1 rfl) ?_
    refine lv_if_ne (tgt := 814) hx hb dL_law_799 (by decide) (fun c112 => ?_) (fun c112 => ?_)
    · replace hp := hp.2 c112
      replace he := he.trans (if_neg c112)
      refine lv_goto (tgt := 1579) hx hb dL_law_814 (by decide) ?_
      refine lv_iinc (v := (v23_4 + 3)) (lv' := [(4, .int (v23_4 + 3)), (6, .int r109), (5, .int r107), (3, .ref o0), (2, .ref q8), (1, .ref q0), (0, .ref b0)]) hx hb dL_law_1579 hl (k := 2) rfl rfl (by decide) rfl (fun ls hl => ?_)
      refine lv_goto (tgt := 23) hx hb dL_law_1582 (by decide) ?_
      refine W.widen (k := kc + 3) (n := ks + 18) (by omega) (by omega) ?_
      exact ih _ _ _ _ _ _ _ _ _ _ _ _ _ _ _ _ _ _ _ _ _ _ _ _ _ _ _ _ _ _ _ _ _ (kc + 3) (ks + 18) (by omega) (by omega) hp he _ _ hP hD hS _ (lv_sub hl [0, 3, 4, 5, 6] rfl)
    · replace hp := hp.1 c112
      replace he := he.trans (if_pos c112)
      refine lv_aload_n hx hb dL_law_802 rfl (lv_at hl 3 rfl) ?_
      refine lv_iconst (v := 0) hx hb dL_law_803 (by decide) ?_
      refine va_lald hx hb hK hP 27 1 rfl rfl (by unfold vp_in; decide) dL_law_804 ?_
      refine lv_iload hx hb dL_law_805 (lv_at hl 0 rfl) ?_
      refine lv_i2l (v := (r109).toInt64) hx hb dL_law_807 rfl ?_
      refine W.lcmp hx hb dL_law_808 ?_
      refine lv_if_eq (tgt := 814) hx hb dL_law_809 (by decide) (fun c114 => ?_) (fun c114 => ?_)
      · replace hp := hp.1 c114
        replace he := he.trans (if_pos c114)
        refine lv_goto (tgt := 1579) hx hb dL_law_814 (by decide) ?_
        refine lv_iinc (v := (v23_4 + 3)) (lv' := [(4, .int (v23_4 + 3)), (6, .int r109), (5, .int r107), (3, .ref o0), (2, .ref q8), (1, .ref q0), (0, .ref b0)]) hx hb dL_law_1579 hl (k := 2) rfl rfl (by decide) rfl (fun ls hl => ?_)
        refine lv_goto (tgt := 23) hx hb dL_law_1582 (by decide) ?_
        refine W.widen (k := kc + 3) (n := ks + 18) (by omega) (by omega) ?_
        exact ih _ _ _ _ _ _ _ _ _ _ _ _ _ _ _ _ _ _ _ _ _ _ _ _ _ _ _ _ _ _ _ _ _ (kc + 3) (ks + 18) (by omega) (by omega) hp he _ _ hP hD hS _ (lv_sub hl [0, 3, 4, 5, 6] rfl)
      · replace hp := hp.2 c114
        replace he := he.trans (if_neg c114)
        refine lv_iconst (v := 0) hx hb dL_law_812 (by decide) ?_
        exact absurd he (by decide)
  · replace hp := hp.2 c111
    replace he := he.trans (if_neg c111)
    refine lv_iconst (v := 0) hx hb dL_law_795 (by decide) ?_
    exact absurd he (by decide)
set_option maxHeartbeats 8000000 in
set_option maxRecDepth 100000 in
theorem law_c16 {p : Program} {l : Launch} {e : Env} {s : State} {m : MethodId} {below : List Frame} {meth : Method} {c : Code} {D : va_G} {cI cJ : ClassId} {b0 L : Nat} {xs : Nat → Int32} {A : Nat → Prop} {q0 n1_0 n1_1 n1_2 n1_3 n1_4 n1_5 n1_6 n1_7 n1_8 n1_9 n1_10 n1_11 n1_12 n1_13 q8 n2_0 n2_1 n2_2 n2_3 n2_4 n2_5 n2_6 n2_7 n2_8 n2_9 n2_10 o0 : Nat} (hx : p.tables.exec = Jvm.exec) (hb : c.code = code) (hr : meth.sig.returnType = ret) (hml : c.maxLocals = 7) (hown : s.vm.findClass RL = some m.cls) (hts : ∀ w ∈ wsL_law, w.before #[Value.ref b0] s = true) (hX : va_X b0 L xs s s.heap) (hbl : b0 < s.heap.size) (hlocks : meth.locks = false) (hbA : ¬ A b0) (hA : ∀ q : Nat, s.heap.size ≤ q → A q) (hAle : ∀ q : Nat, A q → s.heap.size ≤ q) (hN : NB s) (hXB : XB A s s.heap) (hst : l.stackTraces = false) (hK : va_K D vwCl [(cI, .int), (cJ, .long)] s) {n : Nat} (ih : ∀ (v23_4 : Int32) (xr_23 : Int32) (xt_23 : Int32) (gn_23 : AA) (gu_23 : AA) (gb_23 : AA) (ga_23 : AA) (lc_23 : Int32) (lk_23 : AA) (ln_23 : AA) (lt_23 : AA) (ll_23 : AA) (lr_23 : AA) (tw_23 : Int32) (tn_23 : AA) (tt_23 : AA) (mr_23 : Int32) (mc_23 : Int32) (me_23 : Int32) (mw_23 : Int32) (mh_23 : Int32) (mn_23 : AA) (mu_23 : AA) (ms_23 : AA) (mt_23 : AA) (md_23 : AA) (mz_23 : AA) (mi_23 : AA) (mk_23 : AA) (mo_23 : AA) (mj_23 : AA) (ml_23 : AA) (oo_23 : LA) (kc ks : Nat), kc + n * 3 + 64 ≤ 601024 → ks + n * 18 + 64 ≤ 7293034 → p_L_law_L23 xs L n v23_4 xr_23 xt_23 gn_23 gu_23 gb_23 ga_23 lc_23 lk_23 ln_23 lt_23 ll_23 lr_23 tw_23 tn_23 tt_23 mr_23 mc_23 me_23 mw_23 mh_23 mn_23 mu_23 ms_23 mt_23 md_23 mz_23 mi_23 mk_23 mo_23 mj_23 ml_23 oo_23 → (1 : Int32) = f_L_law_L23 xs L n v23_4 xr_23 xt_23 gn_23 gu_23 gb_23 ga_23 lc_23 lk_23 ln_23 lt_23 ll_23 lr_23 tw_23 tn_23 tt_23 mr_23 mc_23 me_23 mw_23 mh_23 mn_23 mu_23 ms_23 mt_23 md_23 mz_23 mi_23 mk_23 mo_23 mj_23 ml_23 oo_23 → ∀ (H : Heap) (locs : List Loc), va_P D vwCl (W_L cI cJ q0 n1_0 n1_1 n1_2 n1_3 n1_4 n1_5 n1_6 n1_7 n1_8 n1_9 n1_10 n1_11 n1_12 n1_13 q8 n2_0 n2_1 n2_2 n2_3 n2_4 n2_5 n2_6 n2_7 n2_8 n2_9 n2_10 o0 xr_23 xt_23 gn_23 gu_23 gb_23 ga_23 lc_23 lk_23 ln_23 lt_23 ll_23 lr_23 tw_23 tn_23 tt_23 mr_23 mc_23 me_23 mw_23 mh_23 mn_23 mu_23 ms_23 mt_23 md_23 mz_23 mi_23 mk_23 mo_23 mj_23 ml_23 oo_23) H → va_D A (W_L cI cJ q0 n1_0 n1_1 n1_2 n1_3 n1_4 n1_5 n1_6 n1_7 n1_8 n1_9 n1_10 n1_11 n1_12 n1_13 q8 n2_0 n2_1 n2_2 n2_3 n2_4 n2_5 n2_6 n2_7 n2_8 n2_9 n2_10 o0 xr_23 xt_23 gn_23 gu_23 gb_23 ga_23 lc_23 lk_23 ln_23 lt_23 ll_23 lr_23 tw_23 tn_23 tt_23 mr_23 mc_23 me_23 mw_23 mh_23 mn_23 mu_23 ms_23 mt_23 md_23 mz_23 mi_23 mk_23 mo_23 mj_23 ml_23 oo_23) → va_S A s.heap H locs → ∀ ls : Array Slot, lv_has ls 7 [(4, .int v23_4), (3, .ref o0), (2, .ref q8), (1, .ref q0), (0, .ref b0)] → W p l e room_1 s m #[Value.ref b0] below meth c H locs kc ks (lw_Z below #[Value.ref b0] s) (F0 m 23 ls [])) (v23_4 : Int32) (xr_23 : Int32) (xt_23 : Int32) (gn_23 : AA) (gu_23 : AA) (gb_23 : AA) (ga_23 : AA) (lc_23 : Int32) (lk_23 : AA) (ln_23 : AA) (lt_23 : AA) (ll_23 : AA) (lr_23 : AA) (tw_23 : Int32) (tn_23 : AA) (tt_23 : AA) (mr_23 : Int32) (mc_23 : Int32) (me_23 : Int32) (mw_23 : Int32) (mh_23 : Int32) (mn_23 : AA) (mu_23 : AA) (ms_23 : AA) (mt_23 : AA) (md_23 : AA) (mz_23 : AA) (mi_23 : AA) (mk_23 : AA) (mo_23 : AA) (mj_23 : AA) (ml_23 : AA) (oo_23 : LA) (kc ks : Nat) (hkc : kc + (n + 1) * 3 + 64 ≤ 601024) (hks : ks + (n + 1) * 18 + 64 ≤ 7293034) (hp : p_L_c16 (p_L_law_L23 xs L n) xs L v23_4 xr_23 xt_23 gn_23 gu_23 gb_23 ga_23 lc_23 lk_23 ln_23 lt_23 ll_23 lr_23 tw_23 tn_23 tt_23 mr_23 mc_23 me_23 mw_23 mn_23 mu_23 ms_23 mt_23 md_23 mz_23 mi_23 mk_23 mo_23 mj_23 ml_23 oo_23) (he : (1 : Int32) = f_L_c16 (f_L_law_L23 xs L n) xs v23_4 xr_23 xt_23 gn_23 gu_23 gb_23 ga_23 lc_23 lk_23 ln_23 lt_23 ll_23 lr_23 tw_23 tn_23 tt_23 mr_23 mc_23 me_23 mw_23 mn_23 mu_23 ms_23 mt_23 md_23 mz_23 mi_23 mk_23 mo_23 mj_23 ml_23 oo_23) (H : Heap) (locs : List Loc) (hP : va_P D vwCl (W_L cI cJ q0 n1_0 n1_1 n1_2 n1_3 n1_4 n1_5 n1_6 n1_7 n1_8 n1_9 n1_10 n1_11 n1_12 n1_13 q8 n2_0 n2_1 n2_2 n2_3 n2_4 n2_5 n2_6 n2_7 n2_8 n2_9 n2_10 o0 xr_23 xt_23 gn_23 gu_23 gb_23 ga_23 lc_23 lk_23 ln_23 lt_23 ll_23 lr_23 tw_23 tn_23 tt_23 mr_23 mc_23 me_23 mw_23 mh_23 mn_23 mu_23 ms_23 mt_23 md_23 mz_23 mi_23 mk_23 mo_23 mj_23 ml_23 oo_23) H) (hD : va_D A (W_L cI cJ q0 n1_0 n1_1 n1_2 n1_3 n1_4 n1_5 n1_6 n1_7 n1_8 n1_9 n1_10 n1_11 n1_12 n1_13 q8 n2_0 n2_1 n2_2 n2_3 n2_4 n2_5 n2_6 n2_7 n2_8 n2_9 n2_10 o0 xr_23 xt_23 gn_23 gu_23 gb_23 ga_23 lc_23 lk_23 ln_23 lt_23 ll_23 lr_23 tw_23 tn_23 tt_23 mr_23 mc_23 me_23 mw_23 mh_23 mn_23 mu_23 ms_23 mt_23 md_23 mz_23 mi_23 mk_23 mo_23 mj_23 ml_23 oo_23)) (hS : va_S A s.heap H locs) (ls : Array Slot) (hl : lv_has ls 7 [(4, .int v23_4), (3, .ref o0), (2, .ref q8), (1, .ref q0), (0, .ref b0)]) : W p l e room_1 s m #[Value.ref b0] below meth c H locs kc ks (lw_Z below #[Value.ref b0] s) (F0 m 1066 ls []) := by
  replace he := he.trans (f_L_c16.eq_1 ..)
  replace hp := Eq.mp (p_L_c16.eq_1 ..) hp
  refine lv_aload_n hx hb dL_law_1066 rfl (lv_at hl 3 rfl) ?_
  refine lv_aload_n hx hb dL_law_1067 rfl (lv_at hl 4 rfl) ?_
  refine lv_iload hx hb dL_law_1068 (lv_at hl 0 rfl) ?_
  refine lv_iconst (v := 1) hx hb dL_law_1070 (by decide) ?_
  refine lv_iadd hx hb dL_law_1071 ?_
  have h156 := hp.1
  replace hp := hp.2
  refine va_sld hx hb hX hbl hbA hS h156 dL_law_1072 ?_
  refine lv_aload_n hx hb dL_law_1073 rfl (lv_at hl 1 rfl) ?_
  have hq157 := hp.1
  replace hp := hp.2
  refine k_ycalli (S := LA) (wc := (W_O cI cJ q0 n1_0 n1_1 n1_2 n1_3 n1_4 n1_5 n1_6 n1_7 n1_8 n1_9 n1_10 n1_11 n1_12 n1_13 o0 xr_23 xt_23 gn_23 gu_23 gb_23 ga_23 lc_23 lk_23 ln_23 lt_23 ll_23 lr_23 tw_23 tn_23 tt_23 oo_23)) (wr := (W_X5 cI q8 n2_0 n2_1 n2_2 n2_3 n2_4 n2_5 n2_6 n2_7 n2_8 n2_9 n2_10 mr_23 mc_23 me_23 mw_23 mh_23 mn_23 mu_23 ms_23 mt_23 md_23 mz_23 mi_23 mk_23 mo_23 mj_23 ml_23)) (w1 := fun u => (W_O cI cJ q0 n1_0 n1_1 n1_2 n1_3 n1_4 n1_5 n1_6 n1_7 n1_8 n1_9 n1_10 n1_11 n1_12 n1_13 o0 xr_23 xt_23 gn_23 gu_23 gb_23 ga_23 lc_23 lk_23 ln_23 lt_23 ll_23 lr_23 tw_23 tn_23 tt_23 u)) (fun u => (W_L cI cJ q0 n1_0 n1_1 n1_2 n1_3 n1_4 n1_5 n1_6 n1_7 n1_8 n1_9 n1_10 n1_11 n1_12 n1_13 q8 n2_0 n2_1 n2_2 n2_3 n2_4 n2_5 n2_6 n2_7 n2_8 n2_9 n2_10 o0 xr_23 xt_23 gn_23 gu_23 gb_23 ga_23 lc_23 lk_23 ln_23 lt_23 ll_23 lr_23 tw_23 tn_23 tt_23 mr_23 mc_23 me_23 mw_23 mh_23 mn_23 mu_23 ms_23 mt_23 md_23 mz_23 mi_23 mk_23 mo_23 mj_23 ml_23 u)) hP hK hD hN hXB hS hA [0, 1, 2, 3, 4, 5, 6, 7, 8, 9, 10, 11, 12, 13, 14, 27] [15, 16, 17, 18, 19, 20, 21, 22, 23, 24, 25, 26] rfl rfl (by decide) (by decide) (by decide) [12, 13, 14, 15, 16, 17, 18, 19, 20, 21, 22, 23, 24, 25, 26, 0, 1, 2, 3, 4, 5, 6, 7, 8, 9, 10, 11, 27] (by decide) (fun _ => rfl) (fun hg => vx_runSW (As := [.ref q0, .int (xs ((v23_4 + 1)).toNatClampNeg), .ref o0]) (rest := []) ⟨hx, hb, hml, hown, hts⟩ (c_L_eventLength l D cI cJ q0 n1_0 n1_1 n1_2 n1_3 n1_4 n1_5 n1_6 n1_7 n1_8 n1_9 n1_10 n1_11 n1_12 n1_13 o0 xr_23 xt_23 gn_23 gu_23 gb_23 ga_23 lc_23 lk_23 ln_23 lt_23 ll_23 lr_23 tw_23 tn_23 tt_23 oo_23 _ (xs ((v23_4 + 1)).toNatClampNeg) hq157 hst) (vx_cwSW 3 hts gL_law_L_eventLength rfl rfl rfl (by decide +kernel) ⟨Nat.le_of_ble_eq_true rfl, Nat.le_of_ble_eq_true rfl⟩) ⟨PX.blind, fun U hU hW => ⟨rfl, hg U hU hW⟩⟩ rfl rfl hl.1 rfl (lv_room ((by exact Nat.le_of_ble_eq_true rfl))) dL_law_1074 ⟨(by show kc + 1 ≤ 601024; omega), (by show ks + 6 ≤ 7293034; omega)⟩) (fun r157 u H locs hw hP hD hS => ?_)
  obtain ⟨u157_0, rfl⟩ : ∃ z, z = u := ⟨_, rfl⟩
  rw [hw] at he
  try dsimp only at he
  replace hp := hp r157 u157_0 hw
  have hP : va_P D vwCl (W_L cI cJ q0 n1_0 n1_1 n1_2 n1_3 n1_4 n1_5 n1_6 n1_7 n1_8 n1_9 n1_10 n1_11 n1_12 n1_13 q8 n2_0 n2_1 n2_2 n2_3 n2_4 n2_5 n2_6 n2_7 n2_8 n2_9 n2_10 o0 xr_23 xt_23 gn_23 gu_23 gb_23 ga_23 lc_23 lk_23 ln_23 lt_23 ll_23 lr_23 tw_23 tn_23 tt_23 mr_23 mc_23 me_23 mw_23 mh_23 mn_23 mu_23 ms_23 mt_23 md_23 mz_23 mi_23 mk_23 mo_23 mj_23 ml_23 u157_0) H := hP
  have hD : va_D A (W_L cI cJ q0 n1_0 n1_1 n1_2 n1_3 n1_4 n1_5 n1_6 n1_7 n1_8 n1_9 n1_10 n1_11 n1_12 n1_13 q8 n2_0 n2_1 n2_2 n2_3 n2_4 n2_5 n2_6 n2_7 n2_8 n2_9 n2_10 o0 xr_23 xt_23 gn_23 gu_23 gb_23 ga_23 lc_23 lk_23 ln_23 lt_23 ll_23 lr_23 tw_23 tn_23 tt_23 mr_23 mc_23 me_23 mw_23 mh_23 mn_23 mu_23 ms_23 mt_23 md_23 mz_23 mi_23 mk_23 mo_23 mj_23 ml_23 u157_0) := hD
  refine lv_istore (lv' := [(5, .int r157), (4, .int v23_4), (3, .ref o0), (2, .ref q8), (1, .ref q0), (0, .ref b0)]) hx hb dL_law_1077 hl (by decide) rfl (fun ls hl => ?_)
  refine lv_aload_n hx hb dL_law_1079 rfl (lv_at hl 3 rfl) ?_
  refine lv_aload_n hx hb dL_law_1080 rfl (lv_at hl 5 rfl) ?_
  refine lv_iload hx hb dL_law_1081 (lv_at hl 1 rfl) ?_
  refine lv_iconst (v := 1) hx hb dL_law_1083 (by decide) ?_
  refine lv_iadd hx hb dL_law_1084 ?_
  have h158 := hp.1
  replace hp := hp.2
  refine va_sld hx hb hX hbl hbA hS h158 dL_law_1085 ?_
  have hq159 := hp.1
  replace hp := hp.2
  refine k_calli (S := Int32) (wc := (W_X5 cI q8 n2_0 n2_1 n2_2 n2_3 n2_4 n2_5 n2_6 n2_7 n2_8 n2_9 n2_10 mr_23 mc_23 me_23 mw_23 mh_23 mn_23 mu_23 ms_23 mt_23 md_23 mz_23 mi_23 mk_23 mo_23 mj_23 ml_23)) (wr := (W_O cI cJ q0 n1_0 n1_1 n1_2 n1_3 n1_4 n1_5 n1_6 n1_7 n1_8 n1_9 n1_10 n1_11 n1_12 n1_13 o0 xr_23 xt_23 gn_23 gu_23 gb_23 ga_23 lc_23 lk_23 ln_23 lt_23 ll_23 lr_23 tw_23 tn_23 tt_23 u157_0)) (w1 := fun u => (W_X5 cI q8 n2_0 n2_1 n2_2 n2_3 n2_4 n2_5 n2_6 n2_7 n2_8 n2_9 n2_10 mr_23 mc_23 me_23 mw_23 u mn_23 mu_23 ms_23 mt_23 md_23 mz_23 mi_23 mk_23 mo_23 mj_23 ml_23)) (fun u => (W_L cI cJ q0 n1_0 n1_1 n1_2 n1_3 n1_4 n1_5 n1_6 n1_7 n1_8 n1_9 n1_10 n1_11 n1_12 n1_13 q8 n2_0 n2_1 n2_2 n2_3 n2_4 n2_5 n2_6 n2_7 n2_8 n2_9 n2_10 o0 xr_23 xt_23 gn_23 gu_23 gb_23 ga_23 lc_23 lk_23 ln_23 lt_23 ll_23 lr_23 tw_23 tn_23 tt_23 mr_23 mc_23 me_23 mw_23 u mn_23 mu_23 ms_23 mt_23 md_23 mz_23 mi_23 mk_23 mo_23 mj_23 ml_23 u157_0)) hP (hK.sub [0] rfl) hD hN hS hA [15, 16, 17, 18, 19, 20, 21, 22, 23, 24, 25, 26] [0, 1, 2, 3, 4, 5, 6, 7, 8, 9, 10, 11, 12, 13, 14, 27] rfl rfl (by decide) (by decide) (by decide) [0, 1, 2, 3, 4, 5, 6, 7, 8, 9, 10, 11, 12, 13, 14, 16, 17, 18, 19, 20, 21, 22, 23, 24, 25, 26, 27, 15] (by decide) (fun _ => rfl) (fun hg => va_runV (As := [.int (xs ((v23_4 + 1)).toNatClampNeg)]) (rest := []) ⟨hx, hb, hml, hown, hts⟩ (c_X5_eventLength l D cI q8 n2_0 n2_1 n2_2 n2_3 n2_4 n2_5 n2_6 n2_7 n2_8 n2_9 n2_10 mr_23 mc_23 me_23 mw_23 mh_23 mn_23 mu_23 ms_23 mt_23 md_23 mz_23 mi_23 mk_23 mo_23 mj_23 ml_23 _ (xs ((v23_4 + 1)).toNatClampNeg) hq159) (cwV 1 hts gL_law_X5_eventLength rfl rfl rfl (by decide +kernel) ⟨Nat.le_of_ble_eq_true rfl, Nat.le_of_ble_eq_true rfl⟩) ⟨PW.blind, va_recv hK hP (ci := 5) (q0 := 15) rfl rfl, fun U hU hW => ⟨rfl, hg U hU hW⟩⟩ rfl rfl hl.1 rfl (lv_room ((by exact Nat.le_of_ble_eq_true rfl))) dL_law_1086 ⟨(by show (kc + 1) + 0 ≤ 601024; omega), (by show (ks + 6) + 0 ≤ 7293034; omega)⟩) (fun r159 u H locs hw hP hD hS => ?_)
  obtain ⟨u159_0, rfl⟩ : ∃ z, z = u := ⟨_, rfl⟩
  rw [hw] at he
  try dsimp only at he
  replace hp := hp r159 u159_0 hw
  have hP : va_P D vwCl (W_L cI cJ q0 n1_0 n1_1 n1_2 n1_3 n1_4 n1_5 n1_6 n1_7 n1_8 n1_9 n1_10 n1_11 n1_12 n1_13 q8 n2_0 n2_1 n2_2 n2_3 n2_4 n2_5 n2_6 n2_7 n2_8 n2_9 n2_10 o0 xr_23 xt_23 gn_23 gu_23 gb_23 ga_23 lc_23 lk_23 ln_23 lt_23 ll_23 lr_23 tw_23 tn_23 tt_23 mr_23 mc_23 me_23 mw_23 u159_0 mn_23 mu_23 ms_23 mt_23 md_23 mz_23 mi_23 mk_23 mo_23 mj_23 ml_23 u157_0) H := hP
  have hD : va_D A (W_L cI cJ q0 n1_0 n1_1 n1_2 n1_3 n1_4 n1_5 n1_6 n1_7 n1_8 n1_9 n1_10 n1_11 n1_12 n1_13 q8 n2_0 n2_1 n2_2 n2_3 n2_4 n2_5 n2_6 n2_7 n2_8 n2_9 n2_10 o0 xr_23 xt_23 gn_23 gu_23 gb_23 ga_23 lc_23 lk_23 ln_23 lt_23 ll_23 lr_23 tw_23 tn_23 tt_23 mr_23 mc_23 me_23 mw_23 u159_0 mn_23 mu_23 ms_23 mt_23 md_23 mz_23 mi_23 mk_23 mo_23 mj_23 ml_23 u157_0) := hD
  refine lv_istore (lv' := [(6, .int r159), (5, .int r157), (4, .int v23_4), (3, .ref o0), (2, .ref q8), (1, .ref q0), (0, .ref b0)]) hx hb dL_law_1089 hl (by decide) rfl (fun ls hl => ?_)
  refine lv_aload_n hx hb dL_law_1091 rfl (lv_at hl 4 rfl) ?_
  refine k_calli (S := Unit) (wc := (W_X5 cI q8 n2_0 n2_1 n2_2 n2_3 n2_4 n2_5 n2_6 n2_7 n2_8 n2_9 n2_10 mr_23 mc_23 me_23 mw_23 u159_0 mn_23 mu_23 ms_23 mt_23 md_23 mz_23 mi_23 mk_23 mo_23 mj_23 ml_23)) (wr := (W_O cI cJ q0 n1_0 n1_1 n1_2 n1_3 n1_4 n1_5 n1_6 n1_7 n1_8 n1_9 n1_10 n1_11 n1_12 n1_13 o0 xr_23 xt_23 gn_23 gu_23 gb_23 ga_23 lc_23 lk_23 ln_23 lt_23 ll_23 lr_23 tw_23 tn_23 tt_23 u157_0)) (w1 := fun u => (W_X5 cI q8 n2_0 n2_1 n2_2 n2_3 n2_4 n2_5 n2_6 n2_7 n2_8 n2_9 n2_10 mr_23 mc_23 me_23 mw_23 u159_0 mn_23 mu_23 ms_23 mt_23 md_23 mz_23 mi_23 mk_23 mo_23 mj_23 ml_23)) (fun u => (W_L cI cJ q0 n1_0 n1_1 n1_2 n1_3 n1_4 n1_5 n1_6 n1_7 n1_8 n1_9 n1_10 n1_11 n1_12 n1_13 q8 n2_0 n2_1 n2_2 n2_3 n2_4 n2_5 n2_6 n2_7 n2_8 n2_9 n2_10 o0 xr_23 xt_23 gn_23 gu_23 gb_23 ga_23 lc_23 lk_23 ln_23 lt_23 ll_23 lr_23 tw_23 tn_23 tt_23 mr_23 mc_23 me_23 mw_23 u159_0 mn_23 mu_23 ms_23 mt_23 md_23 mz_23 mi_23 mk_23 mo_23 mj_23 ml_23 u157_0)) hP (hK.sub [0] rfl) hD hN hS hA [15, 16, 17, 18, 19, 20, 21, 22, 23, 24, 25, 26] [0, 1, 2, 3, 4, 5, 6, 7, 8, 9, 10, 11, 12, 13, 14, 27] rfl rfl (by decide) (by decide) (by decide) [0, 1, 2, 3, 4, 5, 6, 7, 8, 9, 10, 11, 12, 13, 14, 16, 17, 18, 19, 20, 21, 22, 23, 24, 25, 26, 27, 15] (by decide) (fun _ => rfl) (fun hg => va_runV (As := []) (rest := []) ⟨hx, hb, hml, hown, hts⟩ (c_X5_thrown l D cI q8 n2_0 n2_1 n2_2 n2_3 n2_4 n2_5 n2_6 n2_7 n2_8 n2_9 n2_10 mr_23 mc_23 me_23 mw_23 u159_0 mn_23 mu_23 ms_23 mt_23 md_23 mz_23 mi_23 mk_23 mo_23 mj_23 ml_23 _ ) (cwV 0 hts gL_law_X5_thrown rfl rfl rfl (by decide +kernel) ⟨Nat.le_of_ble_eq_true rfl, Nat.le_of_ble_eq_true rfl⟩) ⟨PW.blind, va_recv hK hP (ci := 5) (q0 := 15) rfl rfl, fun U hU hW => ⟨rfl, hg U hU hW⟩⟩ rfl rfl hl.1 rfl (lv_room ((by exact Nat.le_of_ble_eq_true rfl))) dL_law_1092 ⟨(by show (kc + 1) + 0 ≤ 601024; omega), (by show (ks + 6) + 0 ≤ 7293034; omega)⟩) (fun r160 u H locs hw hP hD hS => ?_)
  subst hw
  refine lv_iload hx hb dL_law_1095 (lv_at hl 1 rfl) ?_
  refine lv_icmp_eq (tgt := 1102) hx hb dL_law_1097 (by decide) (fun c161 => ?_) (fun c161 => ?_)
  · replace hp := hp.1 c161
    replace he := he.trans (if_pos c161)
    refine lv_iload hx hb dL_law_1102 (lv_at hl 1 rfl) ?_
    refine lv_if_ne (tgt := 1119) hx hb dL_law_1104 (by decide) (fun c162 => ?_) (fun c162 => ?_)
    · replace hp := hp.2 c162
      replace he := he.trans (if_neg c162)
      refine lv_goto (tgt := 1579) hx hb dL_law_1119 (by decide) ?_
      refine lv_iinc (v := (v23_4 + 3)) (lv' := [(4, .int (v23_4 + 3)), (6, .int r159), (5, .int r157), (3, .ref o0), (2, .ref q8), (1, .ref q0), (0, .ref b0)]) hx hb dL_law_1579 hl (k := 2) rfl rfl (by decide) rfl (fun ls hl => ?_)
      refine lv_goto (tgt := 23) hx hb dL_law_1582 (by decide) ?_
      refine W.widen (k := kc + 3) (n := ks + 18) (by omega) (by omega) ?_
      exact ih _ _ _ _ _ _ _ _ _ _ _ _ _ _ _ _ _ _ _ _ _ _ _ _ _ _ _ _ _ _ _ _ _ (kc + 3) (ks + 18) (by omega) (by omega) hp he _ _ hP hD hS _ (lv_sub hl [0, 3, 4, 5, 6] rfl)
    · replace hp := hp.1 c162
      replace he := he.trans (if_pos c162)
      refine lv_aload_n hx hb dL_law_1107 rfl (lv_at hl 3 rfl) ?_
      refine lv_iconst (v := 0) hx hb dL_law_1108 (by decide) ?_
      refine va_lald hx hb hK hP 27 1 rfl rfl (by unfold vp_in; decide) dL_law_1109 ?_
      refine lv_iload hx hb dL_law_1110 (lv_at hl 0 rfl) ?_
      refine lv_i2l (v := (r159).toInt64) hx hb dL_law_1112 rfl ?_
      refine W.lcmp hx hb dL_law_1113 ?_
      refine lv_if_eq (tgt := 1119) hx hb dL_law_1114 (by decide) (fun c164 => ?_) (fun c164 => ?_)
      · replace hp := hp.1 c164
        replace he := he.trans (if_pos c164)
        refine lv_goto (tgt := 1579) hx hb dL_law_1119 (by decide) ?_
        refine lv_iinc (v := (v23_4 + 3)) (lv' := [(4, .int (v23_4 + 3)), (6, .int r159), (5, .int r157), (3, .ref o0), (2, .ref q8), (1, .ref q0), (0, .ref b0)]) hx hb dL_law_1579 hl (k := 2) rfl rfl (by decide) rfl (fun ls hl => ?_)
        refine lv_goto (tgt := 23) hx hb dL_law_1582 (by decide) ?_
        refine W.widen (k := kc + 3) (n := ks + 18) (by omega) (by omega) ?_
        exact ih _ _ _ _ _ _ _ _ _ _ _ _ _ _ _ _ _ _ _ _ _ _ _ _ _ _ _ _ _ _ _ _ _ (kc + 3) (ks + 18) (by omega) (by omega) hp he _ _ hP hD hS _ (lv_sub hl [0, 3, 4, 5, 6] rfl)
      · replace hp := hp.2 c164
        replace he := he.trans (if_neg c164)
        refine lv_iconst (v := 0) hx hb dL_law_1117 (by decide) ?_
        exact absurd he (by decide)
  · replace hp := hp.2 c161
    replace he := he.trans (if_neg c161)
    refine lv_iconst (v := 0) hx hb dL_law_1100 (by decide) ?_
    exact absurd he (by decide)
set_option maxHeartbeats 8000000 in
set_option maxRecDepth 100000 in
theorem law_c22 {p : Program} {l : Launch} {e : Env} {s : State} {m : MethodId} {below : List Frame} {meth : Method} {c : Code} {D : va_G} {cI cJ : ClassId} {b0 L : Nat} {xs : Nat → Int32} {A : Nat → Prop} {q0 n1_0 n1_1 n1_2 n1_3 n1_4 n1_5 n1_6 n1_7 n1_8 n1_9 n1_10 n1_11 n1_12 n1_13 q8 n2_0 n2_1 n2_2 n2_3 n2_4 n2_5 n2_6 n2_7 n2_8 n2_9 n2_10 o0 : Nat} (hx : p.tables.exec = Jvm.exec) (hb : c.code = code) (hr : meth.sig.returnType = ret) (hml : c.maxLocals = 7) (hown : s.vm.findClass RL = some m.cls) (hts : ∀ w ∈ wsL_law, w.before #[Value.ref b0] s = true) (hX : va_X b0 L xs s s.heap) (hbl : b0 < s.heap.size) (hlocks : meth.locks = false) (hbA : ¬ A b0) (hA : ∀ q : Nat, s.heap.size ≤ q → A q) (hAle : ∀ q : Nat, A q → s.heap.size ≤ q) (hN : NB s) (hXB : XB A s s.heap) (hst : l.stackTraces = false) (hK : va_K D vwCl [(cI, .int), (cJ, .long)] s) {n : Nat} (ih : ∀ (v23_4 : Int32) (xr_23 : Int32) (xt_23 : Int32) (gn_23 : AA) (gu_23 : AA) (gb_23 : AA) (ga_23 : AA) (lc_23 : Int32) (lk_23 : AA) (ln_23 : AA) (lt_23 : AA) (ll_23 : AA) (lr_23 : AA) (tw_23 : Int32) (tn_23 : AA) (tt_23 : AA) (mr_23 : Int32) (mc_23 : Int32) (me_23 : Int32) (mw_23 : Int32) (mh_23 : Int32) (mn_23 : AA) (mu_23 : AA) (ms_23 : AA) (mt_23 : AA) (md_23 : AA) (mz_23 : AA) (mi_23 : AA) (mk_23 : AA) (mo_23 : AA) (mj_23 : AA) (ml_23 : AA) (oo_23 : LA) (kc ks : Nat), kc + n * 3 + 64 ≤ 601024 → ks + n * 18 + 64 ≤ 7293034 → p_L_law_L23 xs L n v23_4 xr_23 xt_23 gn_23 gu_23 gb_23 ga_23 lc_23 lk_23 ln_23 lt_23 ll_23 lr_23 tw_23 tn_23 tt_23 mr_23 mc_23 me_23 mw_23 mh_23 mn_23 mu_23 ms_23 mt_23 md_23 mz_23 mi_23 mk_23 mo_23 mj_23 ml_23 oo_23 → (1 : Int32) = f_L_law_L23 xs L n v23_4 xr_23 xt_23 gn_23 gu_23 gb_23 ga_23 lc_23 lk_23 ln_23 lt_23 ll_23 lr_23 tw_23 tn_23 tt_23 mr_23 mc_23 me_23 mw_23 mh_23 mn_23 mu_23 ms_23 mt_23 md_23 mz_23 mi_23 mk_23 mo_23 mj_23 ml_23 oo_23 → ∀ (H : Heap) (locs : List Loc), va_P D vwCl (W_L cI cJ q0 n1_0 n1_1 n1_2 n1_3 n1_4 n1_5 n1_6 n1_7 n1_8 n1_9 n1_10 n1_11 n1_12 n1_13 q8 n2_0 n2_1 n2_2 n2_3 n2_4 n2_5 n2_6 n2_7 n2_8 n2_9 n2_10 o0 xr_23 xt_23 gn_23 gu_23 gb_23 ga_23 lc_23 lk_23 ln_23 lt_23 ll_23 lr_23 tw_23 tn_23 tt_23 mr_23 mc_23 me_23 mw_23 mh_23 mn_23 mu_23 ms_23 mt_23 md_23 mz_23 mi_23 mk_23 mo_23 mj_23 ml_23 oo_23) H → va_D A (W_L cI cJ q0 n1_0 n1_1 n1_2 n1_3 n1_4 n1_5 n1_6 n1_7 n1_8 n1_9 n1_10 n1_11 n1_12 n1_13 q8 n2_0 n2_1 n2_2 n2_3 n2_4 n2_5 n2_6 n2_7 n2_8 n2_9 n2_10 o0 xr_23 xt_23 gn_23 gu_23 gb_23 ga_23 lc_23 lk_23 ln_23 lt_23 ll_23 lr_23 tw_23 tn_23 tt_23 mr_23 mc_23 me_23 mw_23 mh_23 mn_23 mu_23 ms_23 mt_23 md_23 mz_23 mi_23 mk_23 mo_23 mj_23 ml_23 oo_23) → va_S A s.heap H locs → ∀ ls : Array Slot, lv_has ls 7 [(4, .int v23_4), (3, .ref o0), (2, .ref q8), (1, .ref q0), (0, .ref b0)] → W p l e room_1 s m #[Value.ref b0] below meth c H locs kc ks (lw_Z below #[Value.ref b0] s) (F0 m 23 ls [])) (v23_4 : Int32) (xr_23 : Int32) (xt_23 : Int32) (gn_23 : AA) (gu_23 : AA) (gb_23 : AA) (ga_23 : AA) (lc_23 : Int32) (lk_23 : AA) (ln_23 : AA) (lt_23 : AA) (ll_23 : AA) (lr_23 : AA) (tw_23 : Int32) (tn_23 : AA) (tt_23 : AA) (mr_23 : Int32) (mc_23 : Int32) (me_23 : Int32) (mw_23 : Int32) (mh_23 : Int32) (mn_23 : AA) (mu_23 : AA) (ms_23 : AA) (mt_23 : AA) (md_23 : AA) (mz_23 : AA) (mi_23 : AA) (mk_23 : AA) (mo_23 : AA) (mj_23 : AA) (ml_23 : AA) (oo_23 : LA) (kc ks : Nat) (hkc : kc + (n + 1) * 3 + 64 ≤ 601024) (hks : ks + (n + 1) * 18 + 64 ≤ 7293034) (hp : p_L_c22 (p_L_law_L23 xs L n) xs L v23_4 xr_23 xt_23 gn_23 gu_23 gb_23 ga_23 lc_23 lk_23 ln_23 lt_23 ll_23 lr_23 tw_23 tn_23 tt_23 mr_23 mc_23 me_23 mw_23 mn_23 mu_23 ms_23 mt_23 md_23 mz_23 mi_23 mk_23 mo_23 mj_23 ml_23 oo_23) (he : (1 : Int32) = f_L_c22 (f_L_law_L23 xs L n) xs v23_4 xr_23 xt_23 gn_23 gu_23 gb_23 ga_23 lc_23 lk_23 ln_23 lt_23 ll_23 lr_23 tw_23 tn_23 tt_23 mr_23 mc_23 me_23 mw_23 mn_23 mu_23 ms_23 mt_23 md_23 mz_23 mi_23 mk_23 mo_23 mj_23 ml_23 oo_23) (H : Heap) (locs : List Loc) (hP : va_P D vwCl (W_L cI cJ q0 n1_0 n1_1 n1_2 n1_3 n1_4 n1_5 n1_6 n1_7 n1_8 n1_9 n1_10 n1_11 n1_12 n1_13 q8 n2_0 n2_1 n2_2 n2_3 n2_4 n2_5 n2_6 n2_7 n2_8 n2_9 n2_10 o0 xr_23 xt_23 gn_23 gu_23 gb_23 ga_23 lc_23 lk_23 ln_23 lt_23 ll_23 lr_23 tw_23 tn_23 tt_23 mr_23 mc_23 me_23 mw_23 mh_23 mn_23 mu_23 ms_23 mt_23 md_23 mz_23 mi_23 mk_23 mo_23 mj_23 ml_23 oo_23) H) (hD : va_D A (W_L cI cJ q0 n1_0 n1_1 n1_2 n1_3 n1_4 n1_5 n1_6 n1_7 n1_8 n1_9 n1_10 n1_11 n1_12 n1_13 q8 n2_0 n2_1 n2_2 n2_3 n2_4 n2_5 n2_6 n2_7 n2_8 n2_9 n2_10 o0 xr_23 xt_23 gn_23 gu_23 gb_23 ga_23 lc_23 lk_23 ln_23 lt_23 ll_23 lr_23 tw_23 tn_23 tt_23 mr_23 mc_23 me_23 mw_23 mh_23 mn_23 mu_23 ms_23 mt_23 md_23 mz_23 mi_23 mk_23 mo_23 mj_23 ml_23 oo_23)) (hS : va_S A s.heap H locs) (ls : Array Slot) (hl : lv_has ls 7 [(4, .int v23_4), (3, .ref o0), (2, .ref q8), (1, .ref q0), (0, .ref b0)]) : W p l e room_1 s m #[Value.ref b0] below meth c H locs kc ks (lw_Z below #[Value.ref b0] s) (F0 m 1266 ls []) := by
  replace he := he.trans (f_L_c22.eq_1 ..)
  replace hp := Eq.mp (p_L_c22.eq_1 ..) hp
  refine lv_aload_n hx hb dL_law_1266 rfl (lv_at hl 3 rfl) ?_
  refine lv_aload_n hx hb dL_law_1267 rfl (lv_at hl 4 rfl) ?_
  refine lv_iload hx hb dL_law_1268 (lv_at hl 0 rfl) ?_
  refine lv_iconst (v := 1) hx hb dL_law_1270 (by decide) ?_
  refine lv_iadd hx hb dL_law_1271 ?_
  have h192 := hp.1
  replace hp := hp.2
  refine va_sld hx hb hX hbl hbA hS h192 dL_law_1272 ?_
  refine lv_aload_n hx hb dL_law_1273 rfl (lv_at hl 1 rfl) ?_
  have hq193 := hp.1
  replace hp := hp.2
  refine k_ycalli (S := LA) (wc := (W_O cI cJ q0 n1_0 n1_1 n1_2 n1_3 n1_4 n1_5 n1_6 n1_7 n1_8 n1_9 n1_10 n1_11 n1_12 n1_13 o0 xr_23 xt_23 gn_23 gu_23 gb_23 ga_23 lc_23 lk_23 ln_23 lt_23 ll_23 lr_23 tw_23 tn_23 tt_23 oo_23)) (wr := (W_X5 cI q8 n2_0 n2_1 n2_2 n2_3 n2_4 n2_5 n2_6 n2_7 n2_8 n2_9 n2_10 mr_23 mc_23 me_23 mw_23 mh_23 mn_23 mu_23 ms_23 mt_23 md_23 mz_23 mi_23 mk_23 mo_23 mj_23 ml_23)) (w1 := fun u => (W_O cI cJ q0 n1_0 n1_1 n1_2 n1_3 n1_4 n1_5 n1_6 n1_7 n1_8 n1_9 n1_10 n1_11 n1_12 n1_13 o0 xr_23 xt_23 gn_23 gu_23 gb_23 ga_23 lc_23 lk_23 ln_23 lt_23 ll_23 lr_23 tw_23 tn_23 tt_23 u)) (fun u => (W_L cI cJ q0 n1_0 n1_1 n1_2 n1_3 n1_4 n1_5 n1_6 n1_7 n1_8 n1_9 n1_10 n1_11 n1_12 n1_13 q8 n2_0 n2_1 n2_2 n2_3 n2_4 n2_5 n2_6 n2_7 n2_8 n2_9 n2_10 o0 xr_23 xt_23 gn_23 gu_23 gb_23 ga_23 lc_23 lk_23 ln_23 lt_23 ll_23 lr_23 tw_23 tn_23 tt_23 mr_23 mc_23 me_23 mw_23 mh_23 mn_23 mu_23 ms_23 mt_23 md_23 mz_23 mi_23 mk_23 mo_23 mj_23 ml_23 u)) hP hK hD hN hXB hS hA [0, 1, 2, 3, 4, 5, 6, 7, 8, 9, 10, 11, 12, 13, 14, 27] [15, 16, 17, 18, 19, 20, 21, 22, 23, 24, 25, 26] rfl rfl (by decide) (by decide) (by decide) [12, 13, 14, 15, 16, 17, 18, 19, 20, 21, 22, 23, 24, 25, 26, 0, 1, 2, 3, 4, 5, 6, 7, 8, 9, 10, 11, 27] (by decide) (fun _ => rfl) (fun hg => vx_runSW (As := [.ref q0, .int (xs ((v23_4 + 1)).toNatClampNeg), .ref o0]) (rest := []) ⟨hx, hb, hml, hown, hts⟩ (c_L_isPlausible l D cI cJ q0 n1_0 n1_1 n1_2 n1_3 n1_4 n1_5 n1_6 n1_7 n1_8 n1_9 n1_10 n1_11 n1_12 n1_13 o0 xr_23 xt_23 gn_23 gu_23 gb_23 ga_23 lc_23 lk_23 ln_23 lt_23 ll_23 lr_23 tw_23 tn_23 tt_23 oo_23 _ (xs ((v23_4 + 1)).toNatClampNeg) hq193 hst) (vx_cwSW 3 hts gL_law_L_isPlausible rfl rfl rfl (by decide +kernel) ⟨Nat.le_of_ble_eq_true rfl, Nat.le_of_ble_eq_true rfl⟩) ⟨PX.blind, fun U hU hW => ⟨rfl, hg U hU hW⟩⟩ rfl rfl hl.1 rfl (lv_room ((by exact Nat.le_of_ble_eq_true rfl))) dL_law_1274 ⟨(by show kc + 2 ≤ 601024; omega), (by show ks + 9 ≤ 7293034; omega)⟩) (fun r193 u H locs hw hP hD hS => ?_)
  obtain ⟨u193_0, rfl⟩ : ∃ z, z = u := ⟨_, rfl⟩
  rw [hw] at he
  try dsimp only at he
  replace hp := hp r193 u193_0 hw
  have hP : va_P D vwCl (W_L cI cJ q0 n1_0 n1_1 n1_2 n1_3 n1_4 n1_5 n1_6 n1_7 n1_8 n1_9 n1_10 n1_11 n1_12 n1_13 q8 n2_0 n2_1 n2_2 n2_3 n2_4 n2_5 n2_6 n2_7 n2_8 n2_9 n2_10 o0 xr_23 xt_23 gn_23 gu_23 gb_23 ga_23 lc_23 lk_23 ln_23 lt_23 ll_23 lr_23 tw_23 tn_23 tt_23 mr_23 mc_23 me_23 mw_23 mh_23 mn_23 mu_23 ms_23 mt_23 md_23 mz_23 mi_23 mk_23 mo_23 mj_23 ml_23 u193_0) H := hP
  have hD : va_D A (W_L cI cJ q0 n1_0 n1_1 n1_2 n1_3 n1_4 n1_5 n1_6 n1_7 n1_8 n1_9 n1_10 n1_11 n1_12 n1_13 q8 n2_0 n2_1 n2_2 n2_3 n2_4 n2_5 n2_6 n2_7 n2_8 n2_9 n2_10 o0 xr_23 xt_23 gn_23 gu_23 gb_23 ga_23 lc_23 lk_23 ln_23 lt_23 ll_23 lr_23 tw_23 tn_23 tt_23 mr_23 mc_23 me_23 mw_23 mh_23 mn_23 mu_23 ms_23 mt_23 md_23 mz_23 mi_23 mk_23 mo_23 mj_23 ml_23 u193_0) := hD
  refine lv_istore (lv' := [(5, .int r193), (4, .int v23_4), (3, .ref o0), (2, .ref q8), (1, .ref q0), (0, .ref b0)]) hx hb dL_law_1277 hl (by decide) rfl (fun ls hl => ?_)
  refine lv_aload_n hx hb dL_law_1279 rfl (lv_at hl 3 rfl) ?_
  refine lv_aload_n hx hb dL_law_1280 rfl (lv_at hl 5 rfl) ?_
  refine lv_iload hx hb dL_law_1281 (lv_at hl 1 rfl) ?_
  refine lv_iconst (v := 1) hx hb dL_law_1283 (by decide) ?_
  refine lv_iadd hx hb dL_law_1284 ?_
  have h194 := hp.1
  replace hp := hp.2
  refine va_sld hx hb hX hbl hbA hS h194 dL_law_1285 ?_
  have hq195 := hp.1
  replace hp := hp.2
  refine k_calli (S := Int32) (wc := (W_X5 cI q8 n2_0 n2_1 n2_2 n2_3 n2_4 n2_5 n2_6 n2_7 n2_8 n2_9 n2_10 mr_23 mc_23 me_23 mw_23 mh_23 mn_23 mu_23 ms_23 mt_23 md_23 mz_23 mi_23 mk_23 mo_23 mj_23 ml_23)) (wr := (W_O cI cJ q0 n1_0 n1_1 n1_2 n1_3 n1_4 n1_5 n1_6 n1_7 n1_8 n1_9 n1_10 n1_11 n1_12 n1_13 o0 xr_23 xt_23 gn_23 gu_23 gb_23 ga_23 lc_23 lk_23 ln_23 lt_23 ll_23 lr_23 tw_23 tn_23 tt_23 u193_0)) (w1 := fun u => (W_X5 cI q8 n2_0 n2_1 n2_2 n2_3 n2_4 n2_5 n2_6 n2_7 n2_8 n2_9 n2_10 mr_23 mc_23 me_23 mw_23 u mn_23 mu_23 ms_23 mt_23 md_23 mz_23 mi_23 mk_23 mo_23 mj_23 ml_23)) (fun u => (W_L cI cJ q0 n1_0 n1_1 n1_2 n1_3 n1_4 n1_5 n1_6 n1_7 n1_8 n1_9 n1_10 n1_11 n1_12 n1_13 q8 n2_0 n2_1 n2_2 n2_3 n2_4 n2_5 n2_6 n2_7 n2_8 n2_9 n2_10 o0 xr_23 xt_23 gn_23 gu_23 gb_23 ga_23 lc_23 lk_23 ln_23 lt_23 ll_23 lr_23 tw_23 tn_23 tt_23 mr_23 mc_23 me_23 mw_23 u mn_23 mu_23 ms_23 mt_23 md_23 mz_23 mi_23 mk_23 mo_23 mj_23 ml_23 u193_0)) hP (hK.sub [0] rfl) hD hN hS hA [15, 16, 17, 18, 19, 20, 21, 22, 23, 24, 25, 26] [0, 1, 2, 3, 4, 5, 6, 7, 8, 9, 10, 11, 12, 13, 14, 27] rfl rfl (by decide) (by decide) (by decide) [0, 1, 2, 3, 4, 5, 6, 7, 8, 9, 10, 11, 12, 13, 14, 16, 17, 18, 19, 20, 21, 22, 23, 24, 25, 26, 27, 15] (by decide) (fun _ => rfl) (fun hg => va_runV (As := [.int (xs ((v23_4 + 1)).toNatClampNeg)]) (rest := []) ⟨hx, hb, hml, hown, hts⟩ (c_X5_isPlausible l D cI q8 n2_0 n2_1 n2_2 n2_3 n2_4 n2_5 n2_6 n2_7 n2_8 n2_9 n2_10 mr_23 mc_23 me_23 mw_23 mh_23 mn_23 mu_23 ms_23 mt_23 md_23 mz_23 mi_23 mk_23 mo_23 mj_23 ml_23 _ (xs ((v23_4 + 1)).toNatClampNeg) hq195) (cwV 1 hts gL_law_X5_isPlausible rfl rfl rfl (by decide +kernel) ⟨Nat.le_of_ble_eq_true rfl, Nat.le_of_ble_eq_true rfl⟩) ⟨PW.blind, va_recv hK hP (ci := 5) (q0 := 15) rfl rfl, fun U hU hW => ⟨rfl, hg U hU hW⟩⟩ rfl rfl hl.1 rfl (lv_room ((by exact Nat.le_of_ble_eq_true rfl))) dL_law_1286 ⟨(by show (kc + 2) + 0 ≤ 601024; omega), (by show (ks + 9) + 0 ≤ 7293034; omega)⟩) (fun r195 u H locs hw hP hD hS => ?_)
  obtain ⟨u195_0, rfl⟩ : ∃ z, z = u := ⟨_, rfl⟩
  obtain ⟨hw, hb195⟩ := hw
  rw [hw] at he
  try dsimp only at he
  replace hp := hp r195 u195_0 hw
  have hP : va_P D vwCl (W_L cI cJ q0 n1_0 n1_1 n1_2 n1_3 n1_4 n1_5 n1_6 n1_7 n1_8 n1_9 n1_10 n1_11 n1_12 n1_13 q8 n2_0 n2_1 n2_2 n2_3 n2_4 n2_5 n2_6 n2_7 n2_8 n2_9 n2_10 o0 xr_23 xt_23 gn_23 gu_23 gb_23 ga_23 lc_23 lk_23 ln_23 lt_23 ll_23 lr_23 tw_23 tn_23 tt_23 mr_23 mc_23 me_23 mw_23 u195_0 mn_23 mu_23 ms_23 mt_23 md_23 mz_23 mi_23 mk_23 mo_23 mj_23 ml_23 u193_0) H := hP
  have hD : va_D A (W_L cI cJ q0 n1_0 n1_1 n1_2 n1_3 n1_4 n1_5 n1_6 n1_7 n1_8 n1_9 n1_10 n1_11 n1_12 n1_13 q8 n2_0 n2_1 n2_2 n2_3 n2_4 n2_5 n2_6 n2_7 n2_8 n2_9 n2_10 o0 xr_23 xt_23 gn_23 gu_23 gb_23 ga_23 lc_23 lk_23 ln_23 lt_23 ll_23 lr_23 tw_23 tn_23 tt_23 mr_23 mc_23 me_23 mw_23 u195_0 mn_23 mu_23 ms_23 mt_23 md_23 mz_23 mi_23 mk_23 mo_23 mj_23 ml_23 u193_0) := hD
  refine lv_istore (lv' := [(6, .int r195), (5, .int r193), (4, .int v23_4), (3, .ref o0), (2, .ref q8), (1, .ref q0), (0, .ref b0)]) hx hb dL_law_1289 hl (by decide) rfl (fun ls hl => ?_)
  refine lv_aload_n hx hb dL_law_1291 rfl (lv_at hl 4 rfl) ?_
  refine k_calli (S := Unit) (wc := (W_X5 cI q8 n2_0 n2_1 n2_2 n2_3 n2_4 n2_5 n2_6 n2_7 n2_8 n2_9 n2_10 mr_23 mc_23 me_23 mw_23 u195_0 mn_23 mu_23 ms_23 mt_23 md_23 mz_23 mi_23 mk_23 mo_23 mj_23 ml_23)) (wr := (W_O cI cJ q0 n1_0 n1_1 n1_2 n1_3 n1_4 n1_5 n1_6 n1_7 n1_8 n1_9 n1_10 n1_11 n1_12 n1_13 o0 xr_23 xt_23 gn_23 gu_23 gb_23 ga_23 lc_23 lk_23 ln_23 lt_23 ll_23 lr_23 tw_23 tn_23 tt_23 u193_0)) (w1 := fun u => (W_X5 cI q8 n2_0 n2_1 n2_2 n2_3 n2_4 n2_5 n2_6 n2_7 n2_8 n2_9 n2_10 mr_23 mc_23 me_23 mw_23 u195_0 mn_23 mu_23 ms_23 mt_23 md_23 mz_23 mi_23 mk_23 mo_23 mj_23 ml_23)) (fun u => (W_L cI cJ q0 n1_0 n1_1 n1_2 n1_3 n1_4 n1_5 n1_6 n1_7 n1_8 n1_9 n1_10 n1_11 n1_12 n1_13 q8 n2_0 n2_1 n2_2 n2_3 n2_4 n2_5 n2_6 n2_7 n2_8 n2_9 n2_10 o0 xr_23 xt_23 gn_23 gu_23 gb_23 ga_23 lc_23 lk_23 ln_23 lt_23 ll_23 lr_23 tw_23 tn_23 tt_23 mr_23 mc_23 me_23 mw_23 u195_0 mn_23 mu_23 ms_23 mt_23 md_23 mz_23 mi_23 mk_23 mo_23 mj_23 ml_23 u193_0)) hP (hK.sub [0] rfl) hD hN hS hA [15, 16, 17, 18, 19, 20, 21, 22, 23, 24, 25, 26] [0, 1, 2, 3, 4, 5, 6, 7, 8, 9, 10, 11, 12, 13, 14, 27] rfl rfl (by decide) (by decide) (by decide) [0, 1, 2, 3, 4, 5, 6, 7, 8, 9, 10, 11, 12, 13, 14, 16, 17, 18, 19, 20, 21, 22, 23, 24, 25, 26, 27, 15] (by decide) (fun _ => rfl) (fun hg => va_runV (As := []) (rest := []) ⟨hx, hb, hml, hown, hts⟩ (c_X5_thrown l D cI q8 n2_0 n2_1 n2_2 n2_3 n2_4 n2_5 n2_6 n2_7 n2_8 n2_9 n2_10 mr_23 mc_23 me_23 mw_23 u195_0 mn_23 mu_23 ms_23 mt_23 md_23 mz_23 mi_23 mk_23 mo_23 mj_23 ml_23 _ ) (cwV 0 hts gL_law_X5_thrown rfl rfl rfl (by decide +kernel) ⟨Nat.le_of_ble_eq_true rfl, Nat.le_of_ble_eq_true rfl⟩) ⟨PW.blind, va_recv hK hP (ci := 5) (q0 := 15) rfl rfl, fun U hU hW => ⟨rfl, hg U hU hW⟩⟩ rfl rfl hl.1 rfl (lv_room ((by exact Nat.le_of_ble_eq_true rfl))) dL_law_1292 ⟨(by show (kc + 2) + 0 ≤ 601024; omega), (by show (ks + 9) + 0 ≤ 7293034; omega)⟩) (fun r196 u H locs hw hP hD hS => ?_)
  subst hw
  refine lv_iload hx hb dL_law_1295 (lv_at hl 1 rfl) ?_
  refine lv_icmp_eq (tgt := 1302) hx hb dL_law_1297 (by decide) (fun c197 => ?_) (fun c197 => ?_)
  · replace hp := hp.1 c197
    replace he := he.trans (if_pos c197)
    refine lv_iload hx hb dL_law_1302 (lv_at hl 1 rfl) ?_
    refine lv_if_ne (tgt := 1326) hx hb dL_law_1304 (by decide) (fun c198 => ?_) (fun c198 => ?_)
    · replace hp := hp.2 c198
      replace he := he.trans (if_neg c198)
      refine lv_goto (tgt := 1579) hx hb dL_law_1326 (by decide) ?_
      refine lv_iinc (v := (v23_4 + 3)) (lv' := [(4, .int (v23_4 + 3)), (6, .int r195), (5, .int r193), (3, .ref o0), (2, .ref q8), (1, .ref q0), (0, .ref b0)]) hx hb dL_law_1579 hl (k := 2) rfl rfl (by decide) rfl (fun ls hl => ?_)
      refine lv_goto (tgt := 23) hx hb dL_law_1582 (by decide) ?_
      refine W.widen (k := kc + 3) (n := ks + 18) (by omega) (by omega) ?_
      exact ih _ _ _ _ _ _ _ _ _ _ _ _ _ _ _ _ _ _ _ _ _ _ _ _ _ _ _ _ _ _ _ _ _ (kc + 3) (ks + 18) (by omega) (by omega) hp he _ _ hP hD hS _ (lv_sub hl [0, 3, 4, 5, 6] rfl)
    · replace hp := hp.1 c198
      replace he := he.trans (if_pos c198)
      refine lv_aload_n hx hb dL_law_1307 rfl (lv_at hl 3 rfl) ?_
      refine lv_iconst (v := 0) hx hb dL_law_1308 (by decide) ?_
      refine va_lald hx hb hK hP 27 1 rfl rfl (by unfold vp_in; decide) dL_law_1309 ?_
      refine lv_iload hx hb dL_law_1310 (lv_at hl 0 rfl) ?_
      obtain ⟨j200, hJ200⟩ : ∃ z : Int64, z = (if r195 = 0 then (0 : Int64) else (1 : Int64)) := ⟨_, rfl⟩
      rw [← hJ200] at he
      try dsimp only at he
      have hpJ200 := hp.1
      replace hp := hp.2 _  hJ200.symm
      have kont200 : ∀ (H : Heap) (locs : List Loc), va_P D vwCl (W_L cI cJ q0 n1_0 n1_1 n1_2 n1_3 n1_4 n1_5 n1_6 n1_7 n1_8 n1_9 n1_10 n1_11 n1_12 n1_13 q8 n2_0 n2_1 n2_2 n2_3 n2_4 n2_5 n2_6 n2_7 n2_8 n2_9 n2_10 o0 xr_23 xt_23 gn_23 gu_23 gb_23 ga_23 lc_23 lk_23 ln_23 lt_23 ll_23 lr_23 tw_23 tn_23 tt_23 mr_23 mc_23 me_23 mw_23 u195_0 mn_23 mu_23 ms_23 mt_23 md_23 mz_23 mi_23 mk_23 mo_23 mj_23 ml_23 u193_0) H → va_D A (W_L cI cJ q0 n1_0 n1_1 n1_2 n1_3 n1_4 n1_5 n1_6 n1_7 n1_8 n1_9 n1_10 n1_11 n1_12 n1_13 q8 n2_0 n2_1 n2_2 n2_3 n2_4 n2_5 n2_6 n2_7 n2_8 n2_9 n2_10 o0 xr_23 xt_23 gn_23 gu_23 gb_23 ga_23 lc_23 lk_23 ln_23 lt_23 ll_23 lr_23 tw_23 tn_23 tt_23 mr_23 mc_23 me_23 mw_23 u195_0 mn_23 mu_23 ms_23 mt_23 md_23 mz_23 mi_23 mk_23 mo_23 mj_23 ml_23 u193_0) → va_S A s.heap H locs → ∀ ls : Array Slot, lv_has ls 7 [(4, .int v23_4), (3, .ref o0), (2, .ref q8), (1, .ref q0), (0, .ref b0)] → W p l e room_1 s m #[Value.ref b0] below meth c H locs (kc + 2) (ks + 9) (lw_Z below #[Value.ref b0] s) (F0 m 1320 ls [.long j200, .long (u193_0 (0 : Int32).toNatClampNeg)]) := by
        intro H locs hP hD hS ls hl
        refine W.lcmp hx hb dL_law_1320 ?_
        refine lv_if_eq (tgt := 1326) hx hb dL_law_1321 (by decide) (fun c202 => ?_) (fun c202 => ?_)
        · replace hp := hp.1 c202
          replace he := he.trans (if_pos c202)
          refine lv_goto (tgt := 1579) hx hb dL_law_1326 (by decide) ?_
          refine lv_iinc (v := (v23_4 + 3)) (lv' := [(4, .int (v23_4 + 3)), (3, .ref o0), (2, .ref q8), (1, .ref q0), (0, .ref b0)]) hx hb dL_law_1579 hl (k := 0) rfl rfl (by decide) rfl (fun ls hl => ?_)
          refine lv_goto (tgt := 23) hx hb dL_law_1582 (by decide) ?_
          refine W.widen (k := kc + 3) (n := ks + 18) (by omega) (by omega) ?_
          exact ih _ _ _ _ _ _ _ _ _ _ _ _ _ _ _ _ _ _ _ _ _ _ _ _ _ _ _ _ _ _ _ _ _ (kc + 3) (ks + 18) (by omega) (by omega) hp he _ _ hP hD hS _ (lv_sub hl [0, 1, 2, 3, 4] rfl)
        · replace hp := hp.2 c202
          replace he := he.trans (if_neg c202)
          refine lv_iconst (v := 0) hx hb dL_law_1324 (by decide) ?_
          exact absurd he (by decide)
      replace he := hJ200
      replace hp := hpJ200
      refine lv_if_eq (tgt := 1319) hx hb dL_law_1312 (by decide) (fun c201 => ?_) (fun c201 => ?_)
      · replace hp := hp.1 c201
        replace he := he.trans (if_pos c201)
        refine lv_lconst (v := 0) hx hb dL_law_1319 rfl ?_
        subst he
        exact kont200 _ _ hP hD hS _ (lv_sub hl [2, 3, 4, 5, 6] rfl)
      · replace hp := hp.2 c201
        replace he := he.trans (if_neg c201)
        refine lv_lconst (v := 1) hx hb dL_law_1315 rfl ?_
        refine lv_goto (tgt := 1320) hx hb dL_law_1316 (by decide) ?_
        subst he
        exact kont200 _ _ hP hD hS _ (lv_sub hl [2, 3, 4, 5, 6] rfl)
  · replace hp := hp.2 c197
    replace he := he.trans (if_neg c197)
    refine lv_iconst (v := 0) hx hb dL_law_1300 (by decide) ?_
    exact absurd he (by decide)
set_option maxHeartbeats 8000000 in
set_option maxRecDepth 100000 in
theorem law_c28 {p : Program} {l : Launch} {e : Env} {s : State} {m : MethodId} {below : List Frame} {meth : Method} {c : Code} {D : va_G} {cI cJ : ClassId} {b0 L : Nat} {xs : Nat → Int32} {A : Nat → Prop} {q0 n1_0 n1_1 n1_2 n1_3 n1_4 n1_5 n1_6 n1_7 n1_8 n1_9 n1_10 n1_11 n1_12 n1_13 q8 n2_0 n2_1 n2_2 n2_3 n2_4 n2_5 n2_6 n2_7 n2_8 n2_9 n2_10 o0 : Nat} (hx : p.tables.exec = Jvm.exec) (hb : c.code = code) (hr : meth.sig.returnType = ret) (hml : c.maxLocals = 7) (hown : s.vm.findClass RL = some m.cls) (hts : ∀ w ∈ wsL_law, w.before #[Value.ref b0] s = true) (hX : va_X b0 L xs s s.heap) (hbl : b0 < s.heap.size) (hlocks : meth.locks = false) (hbA : ¬ A b0) (hA : ∀ q : Nat, s.heap.size ≤ q → A q) (hAle : ∀ q : Nat, A q → s.heap.size ≤ q) (hN : NB s) (hXB : XB A s s.heap) (hst : l.stackTraces = false) (hK : va_K D vwCl [(cI, .int), (cJ, .long)] s) {n : Nat} (ih : ∀ (v23_4 : Int32) (xr_23 : Int32) (xt_23 : Int32) (gn_23 : AA) (gu_23 : AA) (gb_23 : AA) (ga_23 : AA) (lc_23 : Int32) (lk_23 : AA) (ln_23 : AA) (lt_23 : AA) (ll_23 : AA) (lr_23 : AA) (tw_23 : Int32) (tn_23 : AA) (tt_23 : AA) (mr_23 : Int32) (mc_23 : Int32) (me_23 : Int32) (mw_23 : Int32) (mh_23 : Int32) (mn_23 : AA) (mu_23 : AA) (ms_23 : AA) (mt_23 : AA) (md_23 : AA) (mz_23 : AA) (mi_23 : AA) (mk_23 : AA) (mo_23 : AA) (mj_23 : AA) (ml_23 : AA) (oo_23 : LA) (kc ks : Nat), kc + n * 3 + 64 ≤ 601024 → ks + n * 18 + 64 ≤ 7293034 → p_L_law_L23 xs L n v23_4 xr_23 xt_23 gn_23 gu_23 gb_23 ga_23 lc_23 lk_23 ln_23 lt_23 ll_23 lr_23 tw_23 tn_23 tt_23 mr_23 mc_23 me_23 mw_23 mh_23 mn_23 mu_23 ms_23 mt_23 md_23 mz_23 mi_23 mk_23 mo_23 mj_23 ml_23 oo_23 → (1 : Int32) = f_L_law_L23 xs L n v23_4 xr_23 xt_23 gn_23 gu_23 gb_23 ga_23 lc_23 lk_23 ln_23 lt_23 ll_23 lr_23 tw_23 tn_23 tt_23 mr_23 mc_23 me_23 mw_23 mh_23 mn_23 mu_23 ms_23 mt_23 md_23 mz_23 mi_23 mk_23 mo_23 mj_23 ml_23 oo_23 → ∀ (H : Heap) (locs : List Loc), va_P D vwCl (W_L cI cJ q0 n1_0 n1_1 n1_2 n1_3 n1_4 n1_5 n1_6 n1_7 n1_8 n1_9 n1_10 n1_11 n1_12 n1_13 q8 n2_0 n2_1 n2_2 n2_3 n2_4 n2_5 n2_6 n2_7 n2_8 n2_9 n2_10 o0 xr_23 xt_23 gn_23 gu_23 gb_23 ga_23 lc_23 lk_23 ln_23 lt_23 ll_23 lr_23 tw_23 tn_23 tt_23 mr_23 mc_23 me_23 mw_23 mh_23 mn_23 mu_23 ms_23 mt_23 md_23 mz_23 mi_23 mk_23 mo_23 mj_23 ml_23 oo_23) H → va_D A (W_L cI cJ q0 n1_0 n1_1 n1_2 n1_3 n1_4 n1_5 n1_6 n1_7 n1_8 n1_9 n1_10 n1_11 n1_12 n1_13 q8 n2_0 n2_1 n2_2 n2_3 n2_4 n2_5 n2_6 n2_7 n2_8 n2_9 n2_10 o0 xr_23 xt_23 gn_23 gu_23 gb_23 ga_23 lc_23 lk_23 ln_23 lt_23 ll_23 lr_23 tw_23 tn_23 tt_23 mr_23 mc_23 me_23 mw_23 mh_23 mn_23 mu_23 ms_23 mt_23 md_23 mz_23 mi_23 mk_23 mo_23 mj_23 ml_23 oo_23) → va_S A s.heap H locs → ∀ ls : Array Slot, lv_has ls 7 [(4, .int v23_4), (3, .ref o0), (2, .ref q8), (1, .ref q0), (0, .ref b0)] → W p l e room_1 s m #[Value.ref b0] below meth c H locs kc ks (lw_Z below #[Value.ref b0] s) (F0 m 23 ls [])) (v23_4 : Int32) (xr_23 : Int32) (xt_23 : Int32) (gn_23 : AA) (gu_23 : AA) (gb_23 : AA) (ga_23 : AA) (lc_23 : Int32) (lk_23 : AA) (ln_23 : AA) (lt_23 : AA) (ll_23 : AA) (lr_23 : AA) (tw_23 : Int32) (tn_23 : AA) (tt_23 : AA) (mr_23 : Int32) (mc_23 : Int32) (me_23 : Int32) (mw_23 : Int32) (mh_23 : Int32) (mn_23 : AA) (mu_23 : AA) (ms_23 : AA) (mt_23 : AA) (md_23 : AA) (mz_23 : AA) (mi_23 : AA) (mk_23 : AA) (mo_23 : AA) (mj_23 : AA) (ml_23 : AA) (oo_23 : LA) (kc ks : Nat) (hkc : kc + (n + 1) * 3 + 64 ≤ 601024) (hks : ks + (n + 1) * 18 + 64 ≤ 7293034) (hp : p_L_c28 (p_L_law_L23 xs L n) xs L v23_4 xr_23 xt_23 gn_23 gu_23 gb_23 ga_23 lc_23 lk_23 ln_23 lt_23 ll_23 lr_23 tw_23 tn_23 tt_23 mr_23 mc_23 me_23 mw_23 mn_23 mu_23 ms_23 mt_23 md_23 mz_23 mi_23 mk_23 mo_23 mj_23 ml_23 oo_23) (he : (1 : Int32) = f_L_c28 (f_L_law_L23 xs L n) xs v23_4 xr_23 xt_23 gn_23 gu_23 gb_23 ga_23 lc_23 lk_23 ln_23 lt_23 ll_23 lr_23 tw_23 tn_23 tt_23 mr_23 mc_23 me_23 mw_23 mn_23 mu_23 ms_23 mt_23 md_23 mz_23 mi_23 mk_23 mo_23 mj_23 ml_23 oo_23) (H : Heap) (locs : List Loc) (hP : va_P D vwCl (W_L cI cJ q0 n1_0 n1_1 n1_2 n1_3 n1_4 n1_5 n1_6 n1_7 n1_8 n1_9 n1_10 n1_11 n1_12 n1_13 q8 n2_0 n2_1 n2_2 n2_3 n2_4 n2_5 n2_6 n2_7 n2_8 n2_9 n2_10 o0 xr_23 xt_23 gn_23 gu_23 gb_23 ga_23 lc_23 lk_23 ln_23 lt_23 ll_23 lr_23 tw_23 tn_23 tt_23 mr_23 mc_23 me_23 mw_23 mh_23 mn_23 mu_23 ms_23 mt_23 md_23 mz_23 mi_23 mk_23 mo_23 mj_23 ml_23 oo_23) H) (hD : va_D A (W_L cI cJ q0 n1_0 n1_1 n1_2 n1_3 n1_4 n1_5 n1_6 n1_7 n1_8 n1_9 n1_10 n1_11 n1_12 n1_13 q8 n2_0 n2_1 n2_2 n2_3 n2_4 n2_5 n2_6 n2_7 n2_8 n2_9 n2_10 o0 xr_23 xt_23 gn_23 gu_23 gb_23 ga_23 lc_23 lk_23 ln_23 lt_23 ll_23 lr_23 tw_23 tn_23 tt_23 mr_23 mc_23 me_23 mw_23 mh_23 mn_23 mu_23 ms_23 mt_23 md_23 mz_23 mi_23 mk_23 mo_23 mj_23 ml_23 oo_23)) (hS : va_S A s.heap H locs) (ls : Array Slot) (hl : lv_has ls 7 [(4, .int v23_4), (3, .ref o0), (2, .ref q8), (1, .ref q0), (0, .ref b0)]) : W p l e room_1 s m #[Value.ref b0] below meth c H locs kc ks (lw_Z below #[Value.ref b0] s) (F0 m 1523 ls []) := by
  replace he := he.trans (f_L_c28.eq_1 ..)
  replace hp := Eq.mp (p_L_c28.eq_1 ..) hp
  refine lv_aload_n hx hb dL_law_1523 rfl (lv_at hl 3 rfl) ?_
  refine lv_aload_n hx hb dL_law_1524 rfl (lv_at hl 4 rfl) ?_
  refine lv_iload hx hb dL_law_1525 (lv_at hl 0 rfl) ?_
  refine lv_iconst (v := 1) hx hb dL_law_1527 (by decide) ?_
  refine lv_iadd hx hb dL_law_1528 ?_
  have h236 := hp.1
  replace hp := hp.2
  refine va_sld hx hb hX hbl hbA hS h236 dL_law_1529 ?_
  refine lv_aload_n hx hb dL_law_1530 rfl (lv_at hl 1 rfl) ?_
  have hq237 := hp.1
  replace hp := hp.2
  refine k_ycalli (S := LA) (wc := (W_O cI cJ q0 n1_0 n1_1 n1_2 n1_3 n1_4 n1_5 n1_6 n1_7 n1_8 n1_9 n1_10 n1_11 n1_12 n1_13 o0 xr_23 xt_23 gn_23 gu_23 gb_23 ga_23 lc_23 lk_23 ln_23 lt_23 ll_23 lr_23 tw_23 tn_23 tt_23 oo_23)) (wr := (W_X5 cI q8 n2_0 n2_1 n2_2 n2_3 n2_4 n2_5 n2_6 n2_7 n2_8 n2_9 n2_10 mr_23 mc_23 me_23 mw_23 mh_23 mn_23 mu_23 ms_23 mt_23 md_23 mz_23 mi_23 mk_23 mo_23 mj_23 ml_23)) (w1 := fun u => (W_O cI cJ q0 n1_0 n1_1 n1_2 n1_3 n1_4 n1_5 n1_6 n1_7 n1_8 n1_9 n1_10 n1_11 n1_12 n1_13 o0 xr_23 xt_23 gn_23 gu_23 gb_23 ga_23 lc_23 lk_23 ln_23 lt_23 ll_23 lr_23 tw_23 tn_23 tt_23 u)) (fun u => (W_L cI cJ q0 n1_0 n1_1 n1_2 n1_3 n1_4 n1_5 n1_6 n1_7 n1_8 n1_9 n1_10 n1_11 n1_12 n1_13 q8 n2_0 n2_1 n2_2 n2_3 n2_4 n2_5 n2_6 n2_7 n2_8 n2_9 n2_10 o0 xr_23 xt_23 gn_23 gu_23 gb_23 ga_23 lc_23 lk_23 ln_23 lt_23 ll_23 lr_23 tw_23 tn_23 tt_23 mr_23 mc_23 me_23 mw_23 mh_23 mn_23 mu_23 ms_23 mt_23 md_23 mz_23 mi_23 mk_23 mo_23 mj_23 ml_23 u)) hP hK hD hN hXB hS hA [0, 1, 2, 3, 4, 5, 6, 7, 8, 9, 10, 11, 12, 13, 14, 27] [15, 16, 17, 18, 19, 20, 21, 22, 23, 24, 25, 26] rfl rfl (by decide) (by decide) (by decide) [12, 13, 14, 15, 16, 17, 18, 19, 20, 21, 22, 23, 24, 25, 26, 0, 1, 2, 3, 4, 5, 6, 7, 8, 9, 10, 11, 27] (by decide) (fun _ => rfl) (fun hg => vx_runSW (As := [.ref q0, .int (xs ((v23_4 + 1)).toNatClampNeg), .ref o0]) (rest := []) ⟨hx, hb, hml, hown, hts⟩ (c_L_causeOf l D cI cJ q0 n1_0 n1_1 n1_2 n1_3 n1_4 n1_5 n1_6 n1_7 n1_8 n1_9 n1_10 n1_11 n1_12 n1_13 o0 xr_23 xt_23 gn_23 gu_23 gb_23 ga_23 lc_23 lk_23 ln_23 lt_23 ll_23 lr_23 tw_23 tn_23 tt_23 oo_23 _ (xs ((v23_4 + 1)).toNatClampNeg) hq237 hst) (vx_cwSW 3 hts gL_law_L_causeOf rfl rfl rfl (by decide +kernel) ⟨Nat.le_of_ble_eq_true rfl, Nat.le_of_ble_eq_true rfl⟩) ⟨PX.blind, fun U hU hW => ⟨rfl, hg U hU hW⟩⟩ rfl rfl hl.1 rfl (lv_room ((by exact Nat.le_of_ble_eq_true rfl))) dL_law_1531 ⟨(by show kc + 2 ≤ 601024; omega), (by show ks + 9 ≤ 7293034; omega)⟩) (fun r237 u H locs hw hP hD hS => ?_)
  obtain ⟨u237_0, rfl⟩ : ∃ z, z = u := ⟨_, rfl⟩
  rw [hw] at he
  try dsimp only at he
  replace hp := hp r237 u237_0 hw
  have hP : va_P D vwCl (W_L cI cJ q0 n1_0 n1_1 n1_2 n1_3 n1_4 n1_5 n1_6 n1_7 n1_8 n1_9 n1_10 n1_11 n1_12 n1_13 q8 n2_0 n2_1 n2_2 n2_3 n2_4 n2_5 n2_6 n2_7 n2_8 n2_9 n2_10 o0 xr_23 xt_23 gn_23 gu_23 gb_23 ga_23 lc_23 lk_23 ln_23 lt_23 ll_23 lr_23 tw_23 tn_23 tt_23 mr_23 mc_23 me_23 mw_23 mh_23 mn_23 mu_23 ms_23 mt_23 md_23 mz_23 mi_23 mk_23 mo_23 mj_23 ml_23 u237_0) H := hP
  have hD : va_D A (W_L cI cJ q0 n1_0 n1_1 n1_2 n1_3 n1_4 n1_5 n1_6 n1_7 n1_8 n1_9 n1_10 n1_11 n1_12 n1_13 q8 n2_0 n2_1 n2_2 n2_3 n2_4 n2_5 n2_6 n2_7 n2_8 n2_9 n2_10 o0 xr_23 xt_23 gn_23 gu_23 gb_23 ga_23 lc_23 lk_23 ln_23 lt_23 ll_23 lr_23 tw_23 tn_23 tt_23 mr_23 mc_23 me_23 mw_23 mh_23 mn_23 mu_23 ms_23 mt_23 md_23 mz_23 mi_23 mk_23 mo_23 mj_23 ml_23 u237_0) := hD
  refine lv_istore (lv' := [(5, .int r237), (4, .int v23_4), (3, .ref o0), (2, .ref q8), (1, .ref q0), (0, .ref b0)]) hx hb dL_law_1534 hl (by decide) rfl (fun ls hl => ?_)
  refine lv_aload_n hx hb dL_law_1536 rfl (lv_at hl 3 rfl) ?_
  refine lv_aload_n hx hb dL_law_1537 rfl (lv_at hl 5 rfl) ?_
  refine lv_iload hx hb dL_law_1538 (lv_at hl 1 rfl) ?_
  refine lv_iconst (v := 1) hx hb dL_law_1540 (by decide) ?_
  refine lv_iadd hx hb dL_law_1541 ?_
  have h238 := hp.1
  replace hp := hp.2
  refine va_sld hx hb hX hbl hbA hS h238 dL_law_1542 ?_
  have hq239 := hp.1
  replace hp := hp.2
  refine k_calli (S := Int32) (wc := (W_X5 cI q8 n2_0 n2_1 n2_2 n2_3 n2_4 n2_5 n2_6 n2_7 n2_8 n2_9 n2_10 mr_23 mc_23 me_23 mw_23 mh_23 mn_23 mu_23 ms_23 mt_23 md_23 mz_23 mi_23 mk_23 mo_23 mj_23 ml_23)) (wr := (W_O cI cJ q0 n1_0 n1_1 n1_2 n1_3 n1_4 n1_5 n1_6 n1_7 n1_8 n1_9 n1_10 n1_11 n1_12 n1_13 o0 xr_23 xt_23 gn_23 gu_23 gb_23 ga_23 lc_23 lk_23 ln_23 lt_23 ll_23 lr_23 tw_23 tn_23 tt_23 u237_0)) (w1 := fun u => (W_X5 cI q8 n2_0 n2_1 n2_2 n2_3 n2_4 n2_5 n2_6 n2_7 n2_8 n2_9 n2_10 mr_23 mc_23 me_23 mw_23 u mn_23 mu_23 ms_23 mt_23 md_23 mz_23 mi_23 mk_23 mo_23 mj_23 ml_23)) (fun u => (W_L cI cJ q0 n1_0 n1_1 n1_2 n1_3 n1_4 n1_5 n1_6 n1_7 n1_8 n1_9 n1_10 n1_11 n1_12 n1_13 q8 n2_0 n2_1 n2_2 n2_3 n2_4 n2_5 n2_6 n2_7 n2_8 n2_9 n2_10 o0 xr_23 xt_23 gn_23 gu_23 gb_23 ga_23 lc_23 lk_23 ln_23 lt_23 ll_23 lr_23 tw_23 tn_23 tt_23 mr_23 mc_23 me_23 mw_23 u mn_23 mu_23 ms_23 mt_23 md_23 mz_23 mi_23 mk_23 mo_23 mj_23 ml_23 u237_0)) hP (hK.sub [0] rfl) hD hN hS hA [15, 16, 17, 18, 19, 20, 21, 22, 23, 24, 25, 26] [0, 1, 2, 3, 4, 5, 6, 7, 8, 9, 10, 11, 12, 13, 14, 27] rfl rfl (by decide) (by decide) (by decide) [0, 1, 2, 3, 4, 5, 6, 7, 8, 9, 10, 11, 12, 13, 14, 16, 17, 18, 19, 20, 21, 22, 23, 24, 25, 26, 27, 15] (by decide) (fun _ => rfl) (fun hg => va_runV (As := [.int (xs ((v23_4 + 1)).toNatClampNeg)]) (rest := []) ⟨hx, hb, hml, hown, hts⟩ (c_X5_causeOf l D cI q8 n2_0 n2_1 n2_2 n2_3 n2_4 n2_5 n2_6 n2_7 n2_8 n2_9 n2_10 mr_23 mc_23 me_23 mw_23 mh_23 mn_23 mu_23 ms_23 mt_23 md_23 mz_23 mi_23 mk_23 mo_23 mj_23 ml_23 _ (xs ((v23_4 + 1)).toNatClampNeg) hq239) (cwV 1 hts gL_law_X5_causeOf rfl rfl rfl (by decide +kernel) ⟨Nat.le_of_ble_eq_true rfl, Nat.le_of_ble_eq_true rfl⟩) ⟨PW.blind, va_recv hK hP (ci := 5) (q0 := 15) rfl rfl, fun U hU hW => ⟨rfl, hg U hU hW⟩⟩ rfl rfl hl.1 rfl (lv_room ((by exact Nat.le_of_ble_eq_true rfl))) dL_law_1543 ⟨(by show (kc + 2) + 0 ≤ 601024; omega), (by show (ks + 9) + 0 ≤ 7293034; omega)⟩) (fun r239 u H locs hw hP hD hS => ?_)
  obtain ⟨u239_0, rfl⟩ : ∃ z, z = u := ⟨_, rfl⟩
  rw [hw] at he
  try dsimp only at he
  replace hp := hp r239 u239_0 hw
  have hP : va_P D vwCl (W_L cI cJ q0 n1_0 n1_1 n1_2 n1_3 n1_4 n1_5 n1_6 n1_7 n1_8 n1_9 n1_10 n1_11 n1_12 n1_13 q8 n2_0 n2_1 n2_2 n2_3 n2_4 n2_5 n2_6 n2_7 n2_8 n2_9 n2_10 o0 xr_23 xt_23 gn_23 gu_23 gb_23 ga_23 lc_23 lk_23 ln_23 lt_23 ll_23 lr_23 tw_23 tn_23 tt_23 mr_23 mc_23 me_23 mw_23 u239_0 mn_23 mu_23 ms_23 mt_23 md_23 mz_23 mi_23 mk_23 mo_23 mj_23 ml_23 u237_0) H := hP
  have hD : va_D A (W_L cI cJ q0 n1_0 n1_1 n1_2 n1_3 n1_4 n1_5 n1_6 n1_7 n1_8 n1_9 n1_10 n1_11 n1_12 n1_13 q8 n2_0 n2_1 n2_2 n2_3 n2_4 n2_5 n2_6 n2_7 n2_8 n2_9 n2_10 o0 xr_23 xt_23 gn_23 gu_23 gb_23 ga_23 lc_23 lk_23 ln_23 lt_23 ll_23 lr_23 tw_23 tn_23 tt_23 mr_23 mc_23 me_23 mw_23 u239_0 mn_23 mu_23 ms_23 mt_23 md_23 mz_23 mi_23 mk_23 mo_23 mj_23 ml_23 u237_0) := hD
  refine lv_istore (lv' := [(6, .int r239), (5, .int r237), (4, .int v23_4), (3, .ref o0), (2, .ref q8), (1, .ref q0), (0, .ref b0)]) hx hb dL_law_1546 hl (by decide) rfl (fun ls hl => ?_)
  refine lv_aload_n hx hb dL_law_1548 rfl (lv_at hl 4 rfl) ?_
  refine k_calli (S := Unit) (wc := (W_X5 cI q8 n2_0 n2_1 n2_2 n2_3 n2_4 n2_5 n2_6 n2_7 n2_8 n2_9 n2_10 mr_23 mc_23 me_23 mw_23 u239_0 mn_23 mu_23 ms_23 mt_23 md_23 mz_23 mi_23 mk_23 mo_23 mj_23 ml_23)) (wr := (W_O cI cJ q0 n1_0 n1_1 n1_2 n1_3 n1_4 n1_5 n1_6 n1_7 n1_8 n1_9 n1_10 n1_11 n1_12 n1_13 o0 xr_23 xt_23 gn_23 gu_23 gb_23 ga_23 lc_23 lk_23 ln_23 lt_23 ll_23 lr_23 tw_23 tn_23 tt_23 u237_0)) (w1 := fun u => (W_X5 cI q8 n2_0 n2_1 n2_2 n2_3 n2_4 n2_5 n2_6 n2_7 n2_8 n2_9 n2_10 mr_23 mc_23 me_23 mw_23 u239_0 mn_23 mu_23 ms_23 mt_23 md_23 mz_23 mi_23 mk_23 mo_23 mj_23 ml_23)) (fun u => (W_L cI cJ q0 n1_0 n1_1 n1_2 n1_3 n1_4 n1_5 n1_6 n1_7 n1_8 n1_9 n1_10 n1_11 n1_12 n1_13 q8 n2_0 n2_1 n2_2 n2_3 n2_4 n2_5 n2_6 n2_7 n2_8 n2_9 n2_10 o0 xr_23 xt_23 gn_23 gu_23 gb_23 ga_23 lc_23 lk_23 ln_23 lt_23 ll_23 lr_23 tw_23 tn_23 tt_23 mr_23 mc_23 me_23 mw_23 u239_0 mn_23 mu_23 ms_23 mt_23 md_23 mz_23 mi_23 mk_23 mo_23 mj_23 ml_23 u237_0)) hP (hK.sub [0] rfl) hD hN hS hA [15, 16, 17, 18, 19, 20, 21, 22, 23, 24, 25, 26] [0, 1, 2, 3, 4, 5, 6, 7, 8, 9, 10, 11, 12, 13, 14, 27] rfl rfl (by decide) (by decide) (by decide) [0, 1, 2, 3, 4, 5, 6, 7, 8, 9, 10, 11, 12, 13, 14, 16, 17, 18, 19, 20, 21, 22, 23, 24, 25, 26, 27, 15] (by decide) (fun _ => rfl) (fun hg => va_runV (As := []) (rest := []) ⟨hx, hb, hml, hown, hts⟩ (c_X5_thrown l D cI q8 n2_0 n2_1 n2_2 n2_3 n2_4 n2_5 n2_6 n2_7 n2_8 n2_9 n2_10 mr_23 mc_23 me_23 mw_23 u239_0 mn_23 mu_23 ms_23 mt_23 md_23 mz_23 mi_23 mk_23 mo_23 mj_23 ml_23 _ ) (cwV 0 hts gL_law_X5_thrown rfl rfl rfl (by decide +kernel) ⟨Nat.le_of_ble_eq_true rfl, Nat.le_of_ble_eq_true rfl⟩) ⟨PW.blind, va_recv hK hP (ci := 5) (q0 := 15) rfl rfl, fun U hU hW => ⟨rfl, hg U hU hW⟩⟩ rfl rfl hl.1 rfl (lv_room ((by exact Nat.le_of_ble_eq_true rfl))) dL_law_1549 ⟨(by show (kc + 2) + 0 ≤ 601024; omega), (by show (ks + 9) + 0 ≤ 7293034; omega)⟩) (fun r240 u H locs hw hP hD hS => ?_)
  subst hw
  refine lv_iload hx hb dL_law_1552 (lv_at hl 1 rfl) ?_
  refine lv_icmp_eq (tgt := 1559) hx hb dL_law_1554 (by decide) (fun c241 => ?_) (fun c241 => ?_)
  · replace hp := hp.1 c241
    replace he := he.trans (if_pos c241)
    refine lv_iload hx hb dL_law_1559 (lv_at hl 1 rfl) ?_
    refine lv_if_ne (tgt := 1576) hx hb dL_law_1561 (by decide) (fun c242 => ?_) (fun c242 => ?_)
    · replace hp := hp.2 c242
      replace he := he.trans (if_neg c242)
      refine lv_goto (tgt := 1579) hx hb dL_law_1576 (by decide) ?_
      refine lv_iinc (v := (v23_4 + 3)) (lv' := [(4, .int (v23_4 + 3)), (6, .int r239), (5, .int r237), (3, .ref o0), (2, .ref q8), (1, .ref q0), (0, .ref b0)]) hx hb dL_law_1579 hl (k := 2) rfl rfl (by decide) rfl (fun ls hl => ?_)
      refine lv_goto (tgt := 23) hx hb dL_law_1582 (by decide) ?_
      refine W.widen (k := kc + 3) (n := ks + 18) (by omega) (by omega) ?_
      exact ih _ _ _ _ _ _ _ _ _ _ _ _ _ _ _ _ _ _ _ _ _ _ _ _ _ _ _ _ _ _ _ _ _ (kc + 3) (ks + 18) (by omega) (by omega) hp he _ _ hP hD hS _ (lv_sub hl [0, 3, 4, 5, 6] rfl)
    · replace hp := hp.1 c242
      replace he := he.trans (if_pos c242)
      refine lv_aload_n hx hb dL_law_1564 rfl (lv_at hl 3 rfl) ?_
      refine lv_iconst (v := 0) hx hb dL_law_1565 (by decide) ?_
      refine va_lald hx hb hK hP 27 1 rfl rfl (by unfold vp_in; decide) dL_law_1566 ?_
      refine lv_iload hx hb dL_law_1567 (lv_at hl 0 rfl) ?_
      refine lv_i2l (v := (r239).toInt64) hx hb dL_law_1569 rfl ?_
      refine W.lcmp hx hb dL_law_1570 ?_
      refine lv_if_eq (tgt := 1576) hx hb dL_law_1571 (by decide) (fun c244 => ?_) (fun c244 => ?_)
      · replace hp := hp.1 c244
        replace he := he.trans (if_pos c244)
        refine lv_goto (tgt := 1579) hx hb dL_law_1576 (by decide) ?_
        refine lv_iinc (v := (v23_4 + 3)) (lv' := [(4, .int (v23_4 + 3)), (6, .int r239), (5, .int r237), (3, .ref o0), (2, .ref q8), (1, .ref q0), (0, .ref b0)]) hx hb dL_law_1579 hl (k := 2) rfl rfl (by decide) rfl (fun ls hl => ?_)
        refine lv_goto (tgt := 23) hx hb dL_law_1582 (by decide) ?_
        refine W.widen (k := kc + 3) (n := ks + 18) (by omega) (by omega) ?_
        exact ih _ _ _ _ _ _ _ _ _ _ _ _ _ _ _ _ _ _ _ _ _ _ _ _ _ _ _ _ _ _ _ _ _ (kc + 3) (ks + 18) (by omega) (by omega) hp he _ _ hP hD hS _ (lv_sub hl [0, 3, 4, 5, 6] rfl)
      · replace hp := hp.2 c244
        replace he := he.trans (if_neg c244)
        refine lv_iconst (v := 0) hx hb dL_law_1574 (by decide) ?_
        exact absurd he (by decide)
  · replace hp := hp.2 c241
    replace he := he.trans (if_neg c241)
    refine lv_iconst (v := 0) hx hb dL_law_1557 (by decide) ?_
    exact absurd he (by decide)
