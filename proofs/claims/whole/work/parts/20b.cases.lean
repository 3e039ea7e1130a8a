set_option maxHeartbeats 8000000 in
set_option maxRecDepth 100000 in
theorem law_c1 {p : Program} {l : Launch} {e : Env} {s : State} {m : MethodId} {below : List Frame} {meth : Method} {c : Code} {D : va_G} {cI cJ : ClassId} {b0 L : Nat} {xs : Nat → Int32} {A : Nat → Prop} {q0 n1_0 n1_1 n1_2 n1_3 n1_4 n1_5 n1_6 n1_7 n1_8 n1_9 n1_10 n1_11 n1_12 n1_13 q8 n2_0 n2_1 n2_2 n2_3 n2_4 n2_5 n2_6 n2_7 n2_8 n2_9 n2_10 o0 : Nat} (hx : p.tables.exec = Jvm.exec) (hb : c.code = code) (hr : meth.sig.returnType = ret) (hml : c.maxLocals = 7) (hown : s.vm.findClass RL = some m.cls) (hts : ∀ w ∈ wsL_law, w.before #[Value.ref b0] s = true) (hX : va_X b0 L xs s s.heap) (hbl : b0 < s.heap.size) (hlocks : meth.locks = false) (hbA : ¬ A b0) (hA : ∀ q : Nat, s.heap.size ≤ q → A q) (hAle : ∀ q : Nat, A q → s.heap.size ≤ q) (hN : NB s) (hXB : XB A s s.heap) (hst : l.stackTraces = false) (hK : va_K D vwCl [(cI, .int), (cJ, .long)] s) {n : Nat} (ih : ∀ (v23_4 : Int32) (xr_23 : Int32) (xt_23 : Int32) (gn_23 : AA) (gu_23 : AA) (gb_23 : AA) (ga_23 : AA) (lc_23 : Int32) (lk_23 : AA) (ln_23 : AA) (lt_23 : AA) (ll_23 : AA) (lr_23 : AA) (tw_23 : Int32) (tn_23 : AA) (tt_23 : AA) (mr_23 : Int32) (mc_23 : Int32) (me_23 : Int32) (mw_23 : Int32) (mh_23 : Int32) (mn_23 : AA) (mu_23 : AA) (ms_23 : AA) (mt_23 : AA) (md_23 : AA) (mz_23 : AA) (mi_23 : AA) (mk_23 : AA) (mo_23 : AA) (mj_23 : AA) (ml_23 : AA) (oo_23 : LA) (kc ks : Nat), kc + n * 3 + 64 ≤ 601024 → ks + n * 18 + 64 ≤ 7293034 → p_L_law_L23 xs L n v23_4 xr_23 xt_23 gn_23 gu_23 gb_23 ga_23 lc_23 lk_23 ln_23 lt_23 ll_23 lr_23 tw_23 tn_23 tt_23 mr_23 mc_23 me_23 mw_23 mh_23 mn_23 mu_23 ms_23 mt_23 md_23 mz_23 mi_23 mk_23 mo_23 mj_23 ml_23 oo_23 → (1 : Int32) = f_L_law_L23 xs L n v23_4 xr_23 xt_23 gn_23 gu_23 gb_23 ga_23 lc_23 lk_23 ln_23 lt_23 ll_23 lr_23 tw_23 tn_23 tt_23 mr_23 mc_23 me_23 mw_23 mh_23 mn_23 mu_23 ms_23 mt_23 md_23 mz_23 mi_23 mk_23 mo_23 mj_23 ml_23 oo_23 → ∀ (H : Heap) (locs : List Loc), va_P D vwCl (W_L cI cJ q0 n1_0 n1_1 n1_2 n1_3 n1_4 n1_5 n1_6 n1_7 n1_8 n1_9 n1_10 n1_11 n1_12 n1_13 q8 n2_0 n2_1 n2_2 n2_3 n2_4 n2_5 n2_6 n2_7 n2_8 n2_9 n2_10 o0 xr_23 xt_23 gn_23 gu_23 gb_23 ga_23 lc_23 lk_23 ln_23 lt_23 ll_23 lr_23 tw_23 tn_23 tt_23 mr_23 mc_23 me_23 mw_23 mh_23 mn_23 mu_23 ms_23 mt_23 md_23 mz_23 mi_23 mk_23 mo_23 mj_23 ml_23 oo_23) H → va_D A (W_L cI cJ q0 n1_0 n1_1 n1_2 n1_3 n1_4 n1_5 n1_6 n1_7 n1_8 n1_9 n1_10 n1_11 n1_12 n1_13 q8 n2_0 n2_1 n2_2 n2_3 n2_4 n2_5 n2_6 n2_7 n2_8 n2_9 n2_10 o0 xr_23 xt_23 gn_23 gu_23 gb_23 ga_23 lc_23 lk_23 ln_23 lt_23 ll_23 lr_23 tw_23 tn_23 tt_23 mr_23 mc_23 me_23 mw_23 mh_23 mn_23 mu_23 ms_23 mt_23 md_23 mz_23 mi_23 mk_23 mo_23 mj_23 ml_23 oo_23) → va_S A s.heap H locs → ∀ ls : Array Slot, lv_has ls 7 [(4, .int v23_4), (3, .ref o0), (2, .ref q8), (1, .ref q0), (0, .ref b0)] → W p l e room_1 s m #[Value.ref b0] below meth c H locs kc ks (lw_Z below #[Value.ref b0] s) (F0 m 23 ls [])) (v23_4 : Int32) (xr_23 : Int32) (xt_23 : Int32) (gn_23 : AA) (gu_23 : AA) (gb_23 : AA) (ga_23 : AA) (lc_23 : Int32) (lk_23 : AA) (ln_23 : AA) (lt_23 : AA) (ll_23 : AA) (lr_23 : AA) (tw_23 : Int32) (tn_23 : AA) (tt_23 : AA) (mr_23 : Int32) (mc_23 : Int32) (me_23 : Int32) (mw_23 : Int32) (mh_23 : Int32) (mn_23 : AA) (mu_23 : AA) (ms_23 : AA) (mt_23 : AA) (md_23 : AA) (mz_23 : AA) (mi_23 : AA) (mk_23 : AA) (mo_23 : AA) (mj_23 : AA) (ml_23 : AA) (oo_23 : LA) (kc ks : Nat) (hkc : kc + (n + 1) * 3 + 64 ≤ 601024) (hks : ks + (n + 1) * 18 + 64 ≤ 7293034) (hp : p_L_c1 (p_L_law_L23 xs L n) xs L v23_4 xr_23 xt_23 gn_23 gu_23 gb_23 ga_23 lc_23 lk_23 ln_23 lt_23 ll_23 lr_23 tw_23 tn_23 tt_23 mr_23 mc_23 me_23 mw_23 mn_23 mu_23 ms_23 mt_23 md_23 mz_23 mi_23 mk_23 mo_23 mj_23 ml_23 oo_23) (he : (1 : Int32) = f_L_c1 (f_L_law_L23 xs L n) xs v23_4 xr_23 xt_23 gn_23 gu_23 gb_23 ga_23 lc_23 lk_23 ln_23 lt_23 ll_23 lr_23 tw_23 tn_23 tt_23 mr_23 mc_23 me_23 mw_23 mn_23 mu_23 ms_23 mt_23 md_23 mz_23 mi_23 mk_23 mo_23 mj_23 ml_23 oo_23) (H : Heap) (locs : List Loc) (hP : va_P D vwCl (W_L cI cJ q0 n1_0 n1_1 n1_2 n1_3 n1_4 n1_5 n1_6 n1_7 n1_8 n1_9 n1_10 n1_11 n1_12 n1_13 q8 n2_0 n2_1 n2_2 n2_3 n2_4 n2_5 n2_6 n2_7 n2_8 n2_9 n2_10 o0 xr_23 xt_23 gn_23 gu_23 gb_23 ga_23 lc_23 lk_23 ln_23 lt_23 ll_23 lr_23 tw_23 tn_23 tt_23 mr_23 mc_23 me_23 mw_23 mh_23 mn_23 mu_23 ms_23 mt_23 md_23 mz_23 mi_23 mk_23 mo_23 mj_23 ml_23 oo_23) H) (hD : va_D A (W_L cI cJ q0 n1_0 n1_1 n1_2 n1_3 n1_4 n1_5 n1_6 n1_7 n1_8 n1_9 n1_10 n1_11 n1_12 n1_13 q8 n2_0 n2_1 n2_2 n2_3 n2_4 n2_5 n2_6 n2_7 n2_8 n2_9 n2_10 o0 xr_23 xt_23 gn_23 gu_23 gb_23 ga_23 lc_23 lk_23 ln_23 lt_23 ll_23 lr_23 tw_23 tn_23 tt_23 mr_23 mc_23 me_23 mw_23 mh_23 mn_23 mu_23 ms_23 mt_23 md_23 mz_23 mi_23 mk_23 mo_23 mj_23 ml_23 oo_23)) (hS : va_S A s.heap H locs) (ls : Array Slot) (hl : lv_has ls 7 [(4, .int v23_4), (3, .ref o0), (2, .ref q8), (1, .ref q0), (0, .ref b0)]) : W p l e room_1 s m #[Value.ref b0] below meth c H locs kc ks (lw_Z below #[Value.ref b0] s) (F0 m 243 ls []) := by
  replace he := he.trans (f_L_c1.eq_1 ..)
  replace hp := Eq.mp (p_L_c1.eq_1 ..) hp
  refine lv_aload_n hx hb dL_law_243 rfl (lv_at hl 3 rfl) ?_
  refine lv_aload_n hx hb dL_law_244 rfl (lv_at hl 4 rfl) ?_
  refine lv_iload hx hb dL_law_245 (lv_at hl 0 rfl) ?_
  refine lv_iconst (v := 1) hx hb dL_law_247 (by decide) ?_
  refine lv_iadd hx hb dL_law_248 ?_
  have h19 := hp.1
  replace hp := hp.2
  refine va_sld hx hb hX hbl hbA hS h19 dL_law_249 ?_
  refine lv_aload_n hx hb dL_law_250 rfl (lv_at hl 4 rfl) ?_
  refine lv_iload hx hb dL_law_251 (lv_at hl 0 rfl) ?_
  refine lv_iconst (v := 2) hx hb dL_law_253 (by decide) ?_
  refine lv_iadd hx hb dL_law_254 ?_
  have h20 := hp.1
  replace hp := hp.2
  refine va_sld hx hb hX hbl hbA hS h20 dL_law_255 ?_
  refine lv_aload_n hx hb dL_law_256 rfl (lv_at hl 1 rfl) ?_
  have hq21 := hp.1
  replace hp := hp.2
  refine k_ycalli (S := AA × AA × AA × AA × LA) (wc := (W_O cI cJ q0 n1_0 n1_1 n1_2 n1_3 n1_4 n1_5 n1_6 n1_7 n1_8 n1_9 n1_10 n1_11 n1_12 n1_13 o0 xr_23 xt_23 gn_23 gu_23 gb_23 ga_23 lc_23 lk_23 ln_23 lt_23 ll_23 lr_23 tw_23 tn_23 tt_23 oo_23)) (wr := (W_X5 cI q8 n2_0 n2_1 n2_2 n2_3 n2_4 n2_5 n2_6 n2_7 n2_8 n2_9 n2_10 mr_23 mc_23 me_23 mw_23 mh_23 mn_23 mu_23 ms_23 mt_23 md_23 mz_23 mi_23 mk_23 mo_23 mj_23 ml_23)) (w1 := fun u => (W_O cI cJ q0 n1_0 n1_1 n1_2 n1_3 n1_4 n1_5 n1_6 n1_7 n1_8 n1_9 n1_10 n1_11 n1_12 n1_13 o0 xr_23 xt_23 u.1 u.2.1 u.2.2.1 u.2.2.2.1 lc_23 lk_23 ln_23 lt_23 ll_23 lr_23 tw_23 tn_23 tt_23 u.2.2.2.2)) (fun u => (W_L cI cJ q0 n1_0 n1_1 n1_2 n1_3 n1_4 n1_5 n1_6 n1_7 n1_8 n1_9 n1_10 n1_11 n1_12 n1_13 q8 n2_0 n2_1 n2_2 n2_3 n2_4 n2_5 n2_6 n2_7 n2_8 n2_9 n2_10 o0 xr_23 xt_23 u.1 u.2.1 u.2.2.1 u.2.2.2.1 lc_23 lk_23 ln_23 lt_23 ll_23 lr_23 tw_23 tn_23 tt_23 mr_23 mc_23 me_23 mw_23 mh_23 mn_23 mu_23 ms_23 mt_23 md_23 mz_23 mi_23 mk_23 mo_23 mj_23 ml_23 u.2.2.2.2)) hP hK hD hN hXB hS hA [0, 1, 2, 3, 4, 5, 6, 7, 8, 9, 10, 11, 12, 13, 14, 27] [15, 16, 17, 18, 19, 20, 21, 22, 23, 24, 25, 26] rfl rfl (by decide) (by decide) (by decide) [12, 13, 14, 15, 16, 17, 18, 19, 20, 21, 22, 23, 24, 25, 26, 0, 1, 2, 3, 4, 5, 6, 7, 8, 9, 10, 11, 27] (by decide) (fun _ => rfl) (fun hg => vx_runSW (As := [.ref q0, .int (xs ((v23_4 + 1)).toNatClampNeg), .int (xs ((v23_4 + 2)).toNatClampNeg), .ref o0]) (rest := []) ⟨hx, hb, hml, hown, hts⟩ (c_L_release l D cI cJ q0 n1_0 n1_1 n1_2 n1_3 n1_4 n1_5 n1_6 n1_7 n1_8 n1_9 n1_10 n1_11 n1_12 n1_13 o0 xr_23 xt_23 gn_23 gu_23 gb_23 ga_23 lc_23 lk_23 ln_23 lt_23 ll_23 lr_23 tw_23 tn_23 tt_23 oo_23 _ (xs ((v23_4 + 1)).toNatClampNeg) (xs ((v23_4 + 2)).toNatClampNeg) hq21 hst) (vx_cwSW 4 hts gL_law_L_release rfl rfl rfl (by decide +kernel) ⟨Nat.le_of_ble_eq_true rfl, Nat.le_of_ble_eq_true rfl⟩) ⟨PX.blind, fun U hU hW => ⟨rfl, hg U hU hW⟩⟩ rfl rfl hl.1 rfl (lv_room ((by exact Nat.le_of_ble_eq_true rfl))) dL_law_257 ⟨(by show kc + 2 ≤ 601024; omega), (by show ks + 12 ≤ 7293034; omega)⟩) (fun r21 u H locs hw hP hD hS => ?_)
  obtain ⟨u21_0, u21_1, u21_2, u21_3, u21_4⟩ := u
  rw [hw] at he
  try dsimp only at he
  replace hp := hp r21 u21_0 u21_1 u21_2 u21_3 u21_4 hw
  have hP : va_P D vwCl (W_L cI cJ q0 n1_0 n1_1 n1_2 n1_3 n1_4 n1_5 n1_6 n1_7 n1_8 n1_9 n1_10 n1_11 n1_12 n1_13 q8 n2_0 n2_1 n2_2 n2_3 n2_4 n2_5 n2_6 n2_7 n2_8 n2_9 n2_10 o0 xr_23 xt_23 u21_0 u21_1 u21_2 u21_3 lc_23 lk_23 ln_23 lt_23 ll_23 lr_23 tw_23 tn_23 tt_23 mr_23 mc_23 me_23 mw_23 mh_23 mn_23 mu_23 ms_23 mt_23 md_23 mz_23 mi_23 mk_23 mo_23 mj_23 ml_23 u21_4) H := hP
  have hD : va_D A (W_L cI cJ q0 n1_0 n1_1 n1_2 n1_3 n1_4 n1_5 n1_6 n1_7 n1_8 n1_9 n1_10 n1_11 n1_12 n1_13 q8 n2_0 n2_1 n2_2 n2_3 n2_4 n2_5 n2_6 n2_7 n2_8 n2_9 n2_10 o0 xr_23 xt_23 u21_0 u21_1 u21_2 u21_3 lc_23 lk_23 ln_23 lt_23 ll_23 lr_23 tw_23 tn_23 tt_23 mr_23 mc_23 me_23 mw_23 mh_23 mn_23 mu_23 ms_23 mt_23 md_23 mz_23 mi_23 mk_23 mo_23 mj_23 ml_23 u21_4) := hD
  refine lv_istore (lv' := [(5, .int r21), (4, .int v23_4), (3, .ref o0), (2, .ref q8), (1, .ref q0), (0, .ref b0)]) hx hb dL_law_260 hl (by decide) rfl (fun ls hl => ?_)
  refine lv_aload_n hx hb dL_law_262 rfl (lv_at hl 3 rfl) ?_
  refine lv_aload_n hx hb dL_law_263 rfl (lv_at hl 5 rfl) ?_
  refine lv_iload hx hb dL_law_264 (lv_at hl 1 rfl) ?_
  refine lv_iconst (v := 1) hx hb dL_law_266 (by decide) ?_
  refine lv_iadd hx hb dL_law_267 ?_
  have h22 := hp.1
  replace hp := hp.2
  refine va_sld hx hb hX hbl hbA hS h22 dL_law_268 ?_
  refine lv_aload_n hx hb dL_law_269 rfl (lv_at hl 5 rfl) ?_
  refine lv_iload hx hb dL_law_270 (lv_at hl 1 rfl) ?_
  refine lv_iconst (v := 2) hx hb dL_law_272 (by decide) ?_
  refine lv_iadd hx hb dL_law_273 ?_
  have h23 := hp.1
  replace hp := hp.2
  refine va_sld hx hb hX hbl hbA hS h23 dL_law_274 ?_
  have hq24 := hp.1
  replace hp := hp.2
  refine k_calli (S := Int32 × AA × AA) (wc := (W_X5 cI q8 n2_0 n2_1 n2_2 n2_3 n2_4 n2_5 n2_6 n2_7 n2_8 n2_9 n2_10 mr_23 mc_23 me_23 mw_23 mh_23 mn_23 mu_23 ms_23 mt_23 md_23 mz_23 mi_23 mk_23 mo_23 mj_23 ml_23)) (wr := (W_O cI cJ q0 n1_0 n1_1 n1_2 n1_3 n1_4 n1_5 n1_6 n1_7 n1_8 n1_9 n1_10 n1_11 n1_12 n1_13 o0 xr_23 xt_23 u21_0 u21_1 u21_2 u21_3 lc_23 lk_23 ln_23 lt_23 ll_23 lr_23 tw_23 tn_23 tt_23 u21_4)) (w1 := fun u => (W_X5 cI q8 n2_0 n2_1 n2_2 n2_3 n2_4 n2_5 n2_6 n2_7 n2_8 n2_9 n2_10 mr_23 mc_23 me_23 mw_23 u.1 u.2.1 u.2.2 ms_23 mt_23 md_23 mz_23 mi_23 mk_23 mo_23 mj_23 ml_23)) (fun u => (W_L cI cJ q0 n1_0 n1_1 n1_2 n1_3 n1_4 n1_5 n1_6 n1_7 n1_8 n1_9 n1_10 n1_11 n1_12 n1_13 q8 n2_0 n2_1 n2_2 n2_3 n2_4 n2_5 n2_6 n2_7 n2_8 n2_9 n2_10 o0 xr_23 xt_23 u21_0 u21_1 u21_2 u21_3 lc_23 lk_23 ln_23 lt_23 ll_23 lr_23 tw_23 tn_23 tt_23 mr_23 mc_23 me_23 mw_23 u.1 u.2.1 u.2.2 ms_23 mt_23 md_23 mz_23 mi_23 mk_23 mo_23 mj_23 ml_23 u21_4)) hP (hK.sub [0] rfl) hD hN hS hA [15, 16, 17, 18, 19, 20, 21, 22, 23, 24, 25, 26] [0, 1, 2, 3, 4, 5, 6, 7, 8, 9, 10, 11, 12, 13, 14, 27] rfl rfl (by decide) (by decide) (by decide) [0, 1, 2, 3, 4, 5, 6, 7, 8, 9, 10, 11, 12, 13, 14, 16, 17, 18, 19, 20, 21, 22, 23, 24, 25, 26, 27, 15] (by decide) (fun _ => rfl) (fun hg => va_runV (As := [.int (xs ((v23_4 + 1)).toNatClampNeg), .int (xs ((v23_4 + 2)).toNatClampNeg)]) (rest := []) ⟨hx, hb, hml, hown, hts⟩ (c_X5_release l D cI q8 n2_0 n2_1 n2_2 n2_3 n2_4 n2_5 n2_6 n2_7 n2_8 n2_9 n2_10 mr_23 mc_23 me_23 mw_23 mh_23 mn_23 mu_23 ms_23 mt_23 md_23 mz_23 mi_23 mk_23 mo_23 mj_23 ml_23 _ (xs ((v23_4 + 1)).toNatClampNeg) (xs ((v23_4 + 2)).toNatClampNeg) hq24) (cwV 2 hts gL_law_X5_release rfl rfl rfl (by decide +kernel) ⟨Nat.le_of_ble_eq_true rfl, Nat.le_of_ble_eq_true rfl⟩) ⟨PW.blind, va_recv hK hP (ci := 5) (q0 := 15) rfl rfl, fun U hU hW => ⟨rfl, hg U hU hW⟩⟩ rfl rfl hl.1 rfl (lv_room ((by exact Nat.le_of_ble_eq_true rfl))) dL_law_275 ⟨(by show (kc + 2) + 0 ≤ 601024; omega), (by show (ks + 12) + 0 ≤ 7293034; omega)⟩) (fun r24 u H locs hw hP hD hS => ?_)
  obtain ⟨u24_0, u24_1, u24_2⟩ := u
  obtain ⟨hw, hb24⟩ := hw
  rw [hw] at he
  try dsimp only at he
  replace hp := hp r24 u24_0 u24_1 u24_2 hw
  have hP : va_P D vwCl (W_L cI cJ q0 n1_0 n1_1 n1_2 n1_3 n1_4 n1_5 n1_6 n1_7 n1_8 n1_9 n1_10 n1_11 n1_12 n1_13 q8 n2_0 n2_1 n2_2 n2_3 n2_4 n2_5 n2_6 n2_7 n2_8 n2_9 n2_10 o0 xr_23 xt_23 u21_0 u21_1 u21_2 u21_3 lc_23 lk_23 ln_23 lt_23 ll_23 lr_23 tw_23 tn_23 tt_23 mr_23 mc_23 me_23 mw_23 u24_0 u24_1 u24_2 ms_23 mt_23 md_23 mz_23 mi_23 mk_23 mo_23 mj_23 ml_23 u21_4) H := hP
  have hD : va_D A (W_L cI cJ q0 n1_0 n1_1 n1_2 n1_3 n1_4 n1_5 n1_6 n1_7 n1_8 n1_9 n1_10 n1_11 n1_12 n1_13 q8 n2_0 n2_1 n2_2 n2_3 n2_4 n2_5 n2_6 n2_7 n2_8 n2_9 n2_10 o0 xr_23 xt_23 u21_0 u21_1 u21_2 u21_3 lc_23 lk_23 ln_23 lt_23 ll_23 lr_23 tw_23 tn_23 tt_23 mr_23 mc_23 me_23 mw_23 u24_0 u24_1 u24_2 ms_23 mt_23 md_23 mz_23 mi_23 mk_23 mo_23 mj_23 ml_23 u21_4) := hD
  refine lv_istore (lv' := [(6, .int r24), (5, .int r21), (4, .int v23_4), (3, .ref o0), (2, .ref q8), (1, .ref q0), (0, .ref b0)]) hx hb dL_law_278 hl (by decide) rfl (fun ls hl => ?_)
  refine lv_aload_n hx hb dL_law_280 rfl (lv_at hl 4 rfl) ?_
  refine k_calli (S := Unit) (wc := (W_X5 cI q8 n2_0 n2_1 n2_2 n2_3 n2_4 n2_5 n2_6 n2_7 n2_8 n2_9 n2_10 mr_23 mc_23 me_23 mw_23 u24_0 u24_1 u24_2 ms_23 mt_23 md_23 mz_23 mi_23 mk_23 mo_23 mj_23 ml_23)) (wr := (W_O cI cJ q0 n1_0 n1_1 n1_2 n1_3 n1_4 n1_5 n1_6 n1_7 n1_8 n1_9 n1_10 n1_11 n1_12 n1_13 o0 xr_23 xt_23 u21_0 u21_1 u21_2 u21_3 lc_23 lk_23 ln_23 lt_23 ll_23 lr_23 tw_23 tn_23 tt_23 u21_4)) (w1 := fun u => (W_X5 cI q8 n2_0 n2_1 n2_2 n2_3 n2_4 n2_5 n2_6 n2_7 n2_8 n2_9 n2_10 mr_23 mc_23 me_23 mw_23 u24_0 u24_1 u24_2 ms_23 mt_23 md_23 mz_23 mi_23 mk_23 mo_23 mj_23 ml_23)) (fun u => (W_L cI cJ q0 n1_0 n1_1 n1_2 n1_3 n1_4 n1_5 n1_6 n1_7 n1_8 n1_9 n1_10 n1_11 n1_12 n1_13 q8 n2_0 n2_1 n2_2 n2_3 n2_4 n2_5 n2_6 n2_7 n2_8 n2_9 n2_10 o0 xr_23 xt_23 u21_0 u21_1 u21_2 u21_3 lc_23 lk_23 ln_23 lt_23 ll_23 lr_23 tw_23 tn_23 tt_23 mr_23 mc_23 me_23 mw_23 u24_0 u24_1 u24_2 ms_23 mt_23 md_23 mz_23 mi_23 mk_23 mo_23 mj_23 ml_23 u21_4)) hP (hK.sub [0] rfl) hD hN hS hA [15, 16, 17, 18, 19, 20, 21, 22, 23, 24, 25, 26] [0, 1, 2, 3, 4, 5, 6, 7, 8, 9, 10, 11, 12, 13, 14, 27] rfl rfl (by decide) (by decide) (by decide) [0, 1, 2, 3, 4, 5, 6, 7, 8, 9, 10, 11, 12, 13, 14, 16, 17, 18, 19, 20, 21, 22, 23, 24, 25, 26, 27, 15] (by decide) (fun _ => rfl) (fun hg => va_runV (As := []) (rest := []) ⟨hx, hb, hml, hown, hts⟩ (c_X5_thrown l D cI q8 n2_0 n2_1 n2_2 n2_3 n2_4 n2_5 n2_6 n2_7 n2_8 n2_9 n2_10 mr_23 mc_23 me_23 mw_23 u24_0 u24_1 u24_2 ms_23 mt_23 md_23 mz_23 mi_23 mk_23 mo_23 mj_23 ml_23 _ ) (cwV 0 hts gL_law_X5_thrown rfl rfl rfl (by decide +kernel) ⟨Nat.le_of_ble_eq_true rfl, Nat.le_of_ble_eq_true rfl⟩) ⟨PW.blind, va_recv hK hP (ci := 5) (q0 := 15) rfl rfl, fun U hU hW => ⟨rfl, hg U hU hW⟩⟩ rfl rfl hl.1 rfl (lv_room ((by exact Nat.le_of_ble_eq_true rfl))) dL_law_281 ⟨(by show (kc + 2) + 0 ≤ 601024; omega), (by show (ks + 12) + 0 ≤ 7293034; omega)⟩) (fun r25 u H locs hw hP hD hS => ?_)
  subst hw
  refine lv_iload hx hb dL_law_284 (lv_at hl 1 rfl) ?_
  refine lv_icmp_eq (tgt := 291) hx hb dL_law_286 (by decide) (fun c26 => ?_) (fun c26 => ?_)
  · replace hp := hp.1 c26
    replace he := he.trans (if_pos c26)
    refine lv_iload hx hb dL_law_291 (lv_at hl 1 rfl) ?_
    refine lv_if_ne (tgt := 315) hx hb dL_law_293 (by decide) (fun c27 => ?_) (fun c27 => ?_)
    · replace hp := hp.2 c27
      replace he := he.trans (if_neg c27)
      refine lv_goto (tgt := 1579) hx hb dL_law_315 (by decide) ?_
      refine lv_iinc (v := (v23_4 + 3)) (lv' := [(4, .int (v23_4 + 3)), (6, .int r24), (5, .int r21), (3, .ref o0), (2, .ref q8), (1, .ref q0), (0, .ref b0)]) hx hb dL_law_1579 hl (k := 2) rfl rfl (by decide) rfl (fun ls hl => ?_)
      refine lv_goto (tgt := 23) hx hb dL_law_1582 (by decide) ?_
      refine W.widen (k := kc + 3) (n := ks + 18) (by omega) (by omega) ?_
      exact ih _ _ _ _ _ _ _ _ _ _ _ _ _ _ _ _ _ _ _ _ _ _ _ _ _ _ _ _ _ _ _ _ _ (kc + 3) (ks + 18) (by omega) (by omega) hp he _ _ hP hD hS _ (lv_sub hl [0, 3, 4, 5, 6] rfl)
    · replace hp := hp.1 c27
      replace he := he.trans (if_pos c27)
      refine lv_aload_n hx hb dL_law_296 rfl (lv_at hl 3 rfl) ?_
      refine lv_iconst (v := 0) hx hb dL_law_297 (by decide) ?_
      refine va_lald hx hb hK hP 27 1 rfl rfl (by unfold vp_in; decide) dL_law_298 ?_
      refine lv_iload hx hb dL_law_299 (lv_at hl 0 rfl) ?_
      obtain ⟨j29, hJ29⟩ : ∃ z : Int64, z = (if r24 = 0 then (0 : Int64) else (1 : Int64)) := ⟨_, rfl⟩
      rw [← hJ29] at he
      try dsimp only at he
      have hpJ29 := hp.1
      replace hp := hp.2 _  hJ29.symm
      have kont29 : ∀ (H : Heap) (locs : List Loc), va_P D vwCl (W_L cI cJ q0 n1_0 n1_1 n1_2 n1_3 n1_4 n1_5 n1_6 n1_7 n1_8 n1_9 n1_10 n1_11 n1_12 n1_13 q8 n2_0 n2_1 n2_2 n2_3 n2_4 n2_5 n2_6 n2_7 n2_8 n2_9 n2_10 o0 xr_23 xt_23 u21_0 u21_1 u21_2 u21_3 lc_23 lk_23 ln_23 lt_23 ll_23 lr_23 tw_23 tn_23 tt_23 mr_23 mc_23 me_23 mw_23 u24_0 u24_1 u24_2 ms_23 mt_23 md_23 mz_23 mi_23 mk_23 mo_23 mj_23 ml_23 u21_4) H → va_D A (W_L cI cJ q0 n1_0 n1_1 n1_2 n1_3 n1_4 n1_5 n1_6 n1_7 n1_8 n1_9 n1_10 n1_11 n1_12 n1_13 q8 n2_0 n2_1 n2_2 n2_3 n2_4 n2_5 n2_6 n2_7 n2_8 n2_9 n2_10 o0 xr_23 xt_23 u21_0 u21_1 u21_2 u21_3 lc_23 lk_23 ln_23 lt_23 ll_23 lr_23 tw_23 tn_23 tt_23 mr_23 mc_23 me_23 mw_23 u24_0 u24_1 u24_2 ms_23 mt_23 md_23 mz_23 mi_23 mk_23 mo_23 mj_23 ml_23 u21_4) → va_S A s.heap H locs → ∀ ls : Array Slot, lv_has ls 7 [(4, .int v23_4), (3, .ref o0), (2, .ref q8), (1, .ref q0), (0, .ref b0)] → W p l e room_1 s m #[Value.ref b0] below meth c H locs (kc + 2) (ks + 12) (lw_Z below #[Value.ref b0] s) (F0 m 309 ls [.long j29, .long (u21_4 (0 : Int32).toNatClampNeg)]) := by
        intro H locs hP hD hS ls hl
        refine W.lcmp hx hb dL_law_309 ?_
        refine lv_if_eq (tgt := 315) hx hb dL_law_310 (by decide) (fun c31 => ?_) (fun c31 => ?_)
        · replace hp := hp.1 c31
          replace he := he.trans (if_pos c31)
          refine lv_goto (tgt := 1579) hx hb dL_law_315 (by decide) ?_
          refine lv_iinc (v := (v23_4 + 3)) (lv' := [(4, .int (v23_4 + 3)), (3, .ref o0), (2, .ref q8), (1, .ref q0), (0, .ref b0)]) hx hb dL_law_1579 hl (k := 0) rfl rfl (by decide) rfl (fun ls hl => ?_)
          refine lv_goto (tgt := 23) hx hb dL_law_1582 (by decide) ?_
          refine W.widen (k := kc + 3) (n := ks + 18) (by omega) (by omega) ?_
          exact ih _ _ _ _ _ _ _ _ _ _ _ _ _ _ _ _ _ _ _ _ _ _ _ _ _ _ _ _ _ _ _ _ _ (kc + 3) (ks + 18) (by omega) (by omega) hp he _ _ hP hD hS _ (lv_sub hl [0, 1, 2, 3, 4] rfl)
        · replace hp := hp.2 c31
          replace he := he.trans (if_neg c31)
          refine lv_iconst (v := 0) hx hb dL_law_313 (by decide) ?_
          exact absurd he (by decide)
      replace he := hJ29
      replace hp := hpJ29
      refine lv_if_eq (tgt := 308) hx hb dL_law_301 (by decide) (fun c30 => ?_) (fun c30 => ?_)
      · replace hp := hp.1 c30
        replace he := he.trans (if_pos c30)
        refine lv_lconst (v := 0) hx hb dL_law_308 rfl ?_
        subst he
        exact kont29 _ _ hP hD hS _ (lv_sub hl [2, 3, 4, 5, 6] rfl)
      · replace hp := hp.2 c30
        replace he := he.trans (if_neg c30)
        refine lv_lconst (v := 1) hx hb dL_law_304 rfl ?_
        refine lv_goto (tgt := 309) hx hb dL_law_305 (by decide) ?_
        subst he
        exact kont29 _ _ hP hD hS _ (lv_sub hl [2, 3, 4, 5, 6] rfl)
  · replace hp := hp.2 c26
    replace he := he.trans (if_neg c26)
    refine lv_iconst (v := 0) hx hb dL_law_289 (by decide) ?_
    exact absurd he (by decide)
set_option maxHeartbeats 8000000 in
set_option maxRecDepth 100000 in
theorem law_c7 {p : Program} {l : Launch} {e : Env} {s : State} {m : MethodId} {below : List Frame} {meth : Method} {c : Code} {D : va_G} {cI cJ : ClassId} {b0 L : Nat} {xs : Nat → Int32} {A : Nat → Prop} {q0 n1_0 n1_1 n1_2 n1_3 n1_4 n1_5 n1_6 n1_7 n1_8 n1_9 n1_10 n1_11 n1_12 n1_13 q8 n2_0 n2_1 n2_2 n2_3 n2_4 n2_5 n2_6 n2_7 n2_8 n2_9 n2_10 o0 : Nat} (hx : p.tables.exec = Jvm.exec) (hb : c.code = code) (hr : meth.sig.returnType = ret) (hml : c.maxLocals = 7) (hown : s.vm.findClass RL = some m.cls) (hts : ∀ w ∈ wsL_law, w.before #[Value.ref b0] s = true) (hX : va_X b0 L xs s s.heap) (hbl : b0 < s.heap.size) (hlocks : meth.locks = false) (hbA : ¬ A b0) (hA : ∀ q : Nat, s.heap.size ≤ q → A q) (hAle : ∀ q : Nat, A q → s.heap.size ≤ q) (hN : NB s) (hXB : XB A s s.heap) (hst : l.stackTraces = false) (hK : va_K D vwCl [(cI, .int), (cJ, .long)] s) {n : Nat} (ih : ∀ (v23_4 : Int32) (xr_23 : Int32) (xt_23 : Int32) (gn_23 : AA) (gu_23 : AA) (gb_23 : AA) (ga_23 : AA) (lc_23 : Int32) (lk_23 : AA) (ln_23 : AA) (lt_23 : AA) (ll_23 : AA) (lr_23 : AA) (tw_23 : Int32) (tn_23 : AA) (tt_23 : AA) (mr_23 : Int32) (mc_23 : Int32) (me_23 : Int32) (mw_23 : Int32) (mh_23 : Int32) (mn_23 : AA) (mu_23 : AA) (ms_23 : AA) (mt_23 : AA) (md_23 : AA) (mz_23 : AA) (mi_23 : AA) (mk_23 : AA) (mo_23 : AA) (mj_23 : AA) (ml_23 : AA) (oo_23 : LA) (kc ks : Nat), kc + n * 3 + 64 ≤ 601024 → ks + n * 18 + 64 ≤ 7293034 → p_L_law_L23 xs L n v23_4 xr_23 xt_23 gn_23 gu_23 gb_23 ga_23 lc_23 lk_23 ln_23 lt_23 ll_23 lr_23 tw_23 tn_23 tt_23 mr_23 mc_23 me_23 mw_23 mh_23 mn_23 mu_23 ms_23 mt_23 md_23 mz_23 mi_23 mk_23 mo_23 mj_23 ml_23 oo_23 → (1 : Int32) = f_L_law_L23 xs L n v23_4 xr_23 xt_23 gn_23 gu_23 gb_23 ga_23 lc_23 lk_23 ln_23 lt_23 ll_23 lr_23 tw_23 tn_23 tt_23 mr_23 mc_23 me_23 mw_23 mh_23 mn_23 mu_23 ms_23 mt_23 md_23 mz_23 mi_23 mk_23 mo_23 mj_23 ml_23 oo_23 → ∀ (H : Heap) (locs : List Loc), va_P D vwCl (W_L cI cJ q0 n1_0 n1_1 n1_2 n1_3 n1_4 n1_5 n1_6 n1_7 n1_8 n1_9 n1_10 n1_11 n1_12 n1_13 q8 n2_0 n2_1 n2_2 n2_3 n2_4 n2_5 n2_6 n2_7 n2_8 n2_9 n2_10 o0 xr_23 xt_23 gn_23 gu_23 gb_23 ga_23 lc_23 lk_23 ln_23 lt_23 ll_23 lr_23 tw_23 tn_23 tt_23 mr_23 mc_23 me_23 mw_23 mh_23 mn_23 mu_23 ms_23 mt_23 md_23 mz_23 mi_23 mk_23 mo_23 mj_23 ml_23 oo_23) H → va_D A (W_L cI cJ q0 n1_0 n1_1 n1_2 n1_3 n1_4 n1_5 n1_6 n1_7 n1_8 n1_9 n1_10 n1_11 n1_12 n1_13 q8 n2_0 n2_1 n2_2 n2_3 n2_4 n2_5 n2_6 n2_7 n2_8 n2_9 n2_10 o0 xr_23 xt_23 gn_23 gu_23 gb_23 ga_23 lc_23 lk_23 ln_23 lt_23 ll_23 lr_23 tw_23 tn_23 tt_23 mr_23 mc_23 me_23 mw_23 mh_23 mn_23 mu_23 ms_23 mt_23 md_23 mz_23 mi_23 mk_23 mo_23 mj_23 ml_23 oo_23) → va_S A s.heap H locs → ∀ ls : Array Slot, lv_has ls 7 [(4, .int v23_4), (3, .ref o0), (2, .ref q8), (1, .ref q0), (0, .ref b0)] → W p l e room_1 s m #[Value.ref b0] below meth c H locs kc ks (lw_Z below #[Value.ref b0] s) (F0 m 23 ls [])) (v23_4 : Int32) (xr_23 : Int32) (xt_23 : Int32) (gn_23 : AA) (gu_23 : AA) (gb_23 : AA) (ga_23 : AA) (lc_23 : Int32) (lk_23 : AA) (ln_23 : AA) (lt_23 : AA) (ll_23 : AA) (lr_23 : AA) (tw_23 : Int32) (tn_23 : AA) (tt_23 : AA) (mr_23 : Int32) (mc_23 : Int32) (me_23 : Int32) (mw_23 : Int32) (mh_23 : Int32) (mn_23 : AA) (mu_23 : AA) (ms_23 : AA) (mt_23 : AA) (md_23 : AA) (mz_23 : AA) (mi_23 : AA) (mk_23 : AA) (mo_23 : AA) (mj_23 : AA) (ml_23 : AA) (oo_23 : LA) (kc ks : Nat) (hkc : kc + (n + 1) * 3 + 64 ≤ 601024) (hks : ks + (n + 1) * 18 + 64 ≤ 7293034) (hp : p_L_c7 (p_L_law_L23 xs L n) xs L v23_4 xr_23 xt_23 gn_23 gu_23 gb_23 ga_23 lc_23 lk_23 ln_23 lt_23 ll_23 lr_23 tw_23 tn_23 tt_23 mr_23 mc_23 me_23 mw_23 mn_23 mu_23 ms_23 mt_23 md_23 mz_23 mi_23 mk_23 mo_23 mj_23 ml_23 oo_23) (he : (1 : Int32) = f_L_c7 (f_L_law_L23 xs L n) xs v23_4 xr_23 xt_23 gn_23 gu_23 gb_23 ga_23 lc_23 lk_23 ln_23 lt_23 ll_23 lr_23 tw_23 tn_23 tt_23 mr_23 mc_23 me_23 mw_23 mn_23 mu_23 ms_23 mt_23 md_23 mz_23 mi_23 mk_23 mo_23 mj_23 ml_23 oo_23) (H : Heap) (locs : List Loc) (hP : va_P D vwCl (W_L cI cJ q0 n1_0 n1_1 n1_2 n1_3 n1_4 n1_5 n1_6 n1_7 n1_8 n1_9 n1_10 n1_11 n1_12 n1_13 q8 n2_0 n2_1 n2_2 n2_3 n2_4 n2_5 n2_6 n2_7 n2_8 n2_9 n2_10 o0 xr_23 xt_23 gn_23 gu_23 gb_23 ga_23 lc_23 lk_23 ln_23 lt_23 ll_23 lr_23 tw_23 tn_23 tt_23 mr_23 mc_23 me_23 mw_23 mh_23 mn_23 mu_23 ms_23 mt_23 md_23 mz_23 mi_23 mk_23 mo_23 mj_23 ml_23 oo_23) H) (hD : va_D A (W_L cI cJ q0 n1_0 n1_1 n1_2 n1_3 n1_4 n1_5 n1_6 n1_7 n1_8 n1_9 n1_10 n1_11 n1_12 n1_13 q8 n2_0 n2_1 n2_2 n2_3 n2_4 n2_5 n2_6 n2_7 n2_8 n2_9 n2_10 o0 xr_23 xt_23 gn_23 gu_23 gb_23 ga_23 lc_23 lk_23 ln_23 lt_23 ll_23 lr_23 tw_23 tn_23 tt_23 mr_23 mc_23 me_23 mw_23 mh_23 mn_23 mu_23 ms_23 mt_23 md_23 mz_23 mi_23 mk_23 mo_23 mj_23 ml_23 oo_23)) (hS : va_S A s.heap H locs) (ls : Array Slot) (hl : lv_has ls 7 [(4, .int v23_4), (3, .ref o0), (2, .ref q8), (1, .ref q0), (0, .ref b0)]) : W p l e room_1 s m #[Value.ref b0] below meth c H locs kc ks (lw_Z below #[Value.ref b0] s) (F0 m 593 ls []) := by
  replace he := he.trans (f_L_c7.eq_1 ..)
  replace hp := Eq.mp (p_L_c7.eq_1 ..) hp
  refine lv_aload_n hx hb dL_law_593 rfl (lv_at hl 3 rfl) ?_
  refine lv_aload_n hx hb dL_law_594 rfl (lv_at hl 4 rfl) ?_
  refine lv_iload hx hb dL_law_595 (lv_at hl 0 rfl) ?_
  refine lv_iconst (v := 1) hx hb dL_law_597 (by decide) ?_
  refine lv_iadd hx hb dL_law_598 ?_
  have h79 := hp.1
  replace hp := hp.2
  refine va_sld hx hb hX hbl hbA hS h79 dL_law_599 ?_
  refine lv_aload_n hx hb dL_law_600 rfl (lv_at hl 1 rfl) ?_
  have hq80 := hp.1
  replace hp := hp.2
  refine k_ycalli (S := Int32 × Int32 × AA × AA × AA × AA × AA × Int32 × AA × AA × LA) (wc := (W_O cI cJ q0 n1_0 n1_1 n1_2 n1_3 n1_4 n1_5 n1_6 n1_7 n1_8 n1_9 n1_10 n1_11 n1_12 n1_13 o0 xr_23 xt_23 gn_23 gu_23 gb_23 ga_23 lc_23 lk_23 ln_23 lt_23 ll_23 lr_23 tw_23 tn_23 tt_23 oo_23)) (wr := (W_X5 cI q8 n2_0 n2_1 n2_2 n2_3 n2_4 n2_5 n2_6 n2_7 n2_8 n2_9 n2_10 mr_23 mc_23 me_23 mw_23 mh_23 mn_23 mu_23 ms_23 mt_23 md_23 mz_23 mi_23 mk_23 mo_23 mj_23 ml_23)) (w1 := fun u => (W_O cI cJ q0 n1_0 n1_1 n1_2 n1_3 n1_4 n1_5 n1_6 n1_7 n1_8 n1_9 n1_10 n1_11 n1_12 n1_13 o0 u.1 xt_23 gn_23 gu_23 gb_23 ga_23 u.2.1 u.2.2.1 u.2.2.2.1 u.2.2.2.2.1 u.2.2.2.2.2.1 u.2.2.2.2.2.2.1 u.2.2.2.2.2.2.2.1 u.2.2.2.2.2.2.2.2.1 u.2.2.2.2.2.2.2.2.2.1 u.2.2.2.2.2.2.2.2.2.2)) (fun u => (W_L cI cJ q0 n1_0 n1_1 n1_2 n1_3 n1_4 n1_5 n1_6 n1_7 n1_8 n1_9 n1_10 n1_11 n1_12 n1_13 q8 n2_0 n2_1 n2_2 n2_3 n2_4 n2_5 n2_6 n2_7 n2_8 n2_9 n2_10 o0 u.1 xt_23 gn_23 gu_23 gb_23 ga_23 u.2.1 u.2.2.1 u.2.2.2.1 u.2.2.2.2.1 u.2.2.2.2.2.1 u.2.2.2.2.2.2.1 u.2.2.2.2.2.2.2.1 u.2.2.2.2.2.2.2.2.1 u.2.2.2.2.2.2.2.2.2.1 mr_23 mc_23 me_23 mw_23 mh_23 mn_23 mu_23 ms_23 mt_23 md_23 mz_23 mi_23 mk_23 mo_23 mj_23 ml_23 u.2.2.2.2.2.2.2.2.2.2)) hP hK hD hN hXB hS hA [0, 1, 2, 3, 4, 5, 6, 7, 8, 9, 10, 11, 12, 13, 14, 27] [15, 16, 17, 18, 19, 20, 21, 22, 23, 24, 25, 26] rfl rfl (by decide) (by decide) (by decide) [12, 13, 14, 15, 16, 17, 18, 19, 20, 21, 22, 23, 24, 25, 26, 0, 1, 2, 3, 4, 5, 6, 7, 8, 9, 10, 11, 27] (by decide) (fun _ => rfl) (fun hg => vx_runSW (As := [.ref q0, .int (xs ((v23_4 + 1)).toNatClampNeg), .ref o0]) (rest := []) ⟨hx, hb, hml, hown, hts⟩ (c_L_raise l D cI cJ q0 n1_0 n1_1 n1_2 n1_3 n1_4 n1_5 n1_6 n1_7 n1_8 n1_9 n1_10 n1_11 n1_12 n1_13 o0 xr_23 xt_23 gn_23 gu_23 gb_23 ga_23 lc_23 lk_23 ln_23 lt_23 ll_23 lr_23 tw_23 tn_23 tt_23 oo_23 _ (xs ((v23_4 + 1)).toNatClampNeg) hq80 hst) (vx_cwSW 3 hts gL_law_L_raise rfl rfl rfl (by decide +kernel) ⟨Nat.le_of_ble_eq_true rfl, Nat.le_of_ble_eq_true rfl⟩) ⟨PX.blind, fun U hU hW => ⟨rfl, hg U hU hW⟩⟩ rfl rfl hl.1 rfl (lv_room ((by exact Nat.le_of_ble_eq_true rfl))) dL_law_601 ⟨(by show kc + 2 ≤ 601024; omega), (by show ks + 12 ≤ 7293034; omega)⟩) (fun r80 u H locs hw hP hD hS => ?_)
  obtain ⟨u80_0, u80_1, u80_2, u80_3, u80_4, u80_5, u80_6, u80_7, u80_8, u80_9, u80_10⟩ := u
  rw [hw] at he
  try dsimp only at he
  replace hp := hp r80 u80_0 u80_1 u80_2 u80_3 u80_4 u80_5 u80_6 u80_7 u80_8 u80_9 u80_10 hw
  have hP : va_P D vwCl (W_L cI cJ q0 n1_0 n1_1 n1_2 n1_3 n1_4 n1_5 n1_6 n1_7 n1_8 n1_9 n1_10 n1_11 n1_12 n1_13 q8 n2_0 n2_1 n2_2 n2_3 n2_4 n2_5 n2_6 n2_7 n2_8 n2_9 n2_10 o0 u80_0 xt_23 gn_23 gu_23 gb_23 ga_23 u80_1 u80_2 u80_3 u80_4 u80_5 u80_6 u80_7 u80_8 u80_9 mr_23 mc_23 me_23 mw_23 mh_23 mn_23 mu_23 ms_23 mt_23 md_23 mz_23 mi_23 mk_23 mo_23 mj_23 ml_23 u80_10) H := hP
  have hD : va_D A (W_L cI cJ q0 n1_0 n1_1 n1_2 n1_3 n1_4 n1_5 n1_6 n1_7 n1_8 n1_9 n1_10 n1_11 n1_12 n1_13 q8 n2_0 n2_1 n2_2 n2_3 n2_4 n2_5 n2_6 n2_7 n2_8 n2_9 n2_10 o0 u80_0 xt_23 gn_23 gu_23 gb_23 ga_23 u80_1 u80_2 u80_3 u80_4 u80_5 u80_6 u80_7 u80_8 u80_9 mr_23 mc_23 me_23 mw_23 mh_23 mn_23 mu_23 ms_23 mt_23 md_23 mz_23 mi_23 mk_23 mo_23 mj_23 ml_23 u80_10) := hD
  refine lv_istore (lv' := [(5, .int r80), (4, .int v23_4), (3, .ref o0), (2, .ref q8), (1, .ref q0), (0, .ref b0)]) hx hb dL_law_604 hl (by decide) rfl (fun ls hl => ?_)
  refine lv_aload_n hx hb dL_law_606 rfl (lv_at hl 3 rfl) ?_
  refine lv_aload_n hx hb dL_law_607 rfl (lv_at hl 5 rfl) ?_
  refine lv_iload hx hb dL_law_608 (lv_at hl 1 rfl) ?_
  refine lv_iconst (v := 1) hx hb dL_law_610 (by decide) ?_
  refine lv_iadd hx hb dL_law_611 ?_
  have h81 := hp.1
  replace hp := hp.2
  refine va_sld hx hb hX hbl hbA hS h81 dL_law_612 ?_
  have hq82 := hp.1
  replace hp := hp.2
  refine k_calli (S := Int32 × Int32 × Int32 × Int32 × AA × AA × AA × AA × AA × AA × AA × AA × AA) (wc := (W_X5 cI q8 n2_0 n2_1 n2_2 n2_3 n2_4 n2_5 n2_6 n2_7 n2_8 n2_9 n2_10 mr_23 mc_23 me_23 mw_23 mh_23 mn_23 mu_23 ms_23 mt_23 md_23 mz_23 mi_23 mk_23 mo_23 mj_23 ml_23)) (wr := (W_O cI cJ q0 n1_0 n1_1 n1_2 n1_3 n1_4 n1_5 n1_6 n1_7 n1_8 n1_9 n1_10 n1_11 n1_12 n1_13 o0 u80_0 xt_23 gn_23 gu_23 gb_23 ga_23 u80_1 u80_2 u80_3 u80_4 u80_5 u80_6 u80_7 u80_8 u80_9 u80_10)) (w1 := fun u => (W_X5 cI q8 n2_0 n2_1 n2_2 n2_3 n2_4 n2_5 n2_6 n2_7 n2_8 n2_9 n2_10 u.1 u.2.1 u.2.2.1 mw_23 u.2.2.2.1 mn_23 mu_23 u.2.2.2.2.1 u.2.2.2.2.2.1 u.2.2.2.2.2.2.1 u.2.2.2.2.2.2.2.1 u.2.2.2.2.2.2.2.2.1 u.2.2.2.2.2.2.2.2.2.1 u.2.2.2.2.2.2.2.2.2.2.1 u.2.2.2.2.2.2.2.2.2.2.2.1 u.2.2.2.2.2.2.2.2.2.2.2.2)) (fun u => (W_L cI cJ q0 n1_0 n1_1 n1_2 n1_3 n1_4 n1_5 n1_6 n1_7 n1_8 n1_9 n1_10 n1_11 n1_12 n1_13 q8 n2_0 n2_1 n2_2 n2_3 n2_4 n2_5 n2_6 n2_7 n2_8 n2_9 n2_10 o0 u80_0 xt_23 gn_23 gu_23 gb_23 ga_23 u80_1 u80_2 u80_3 u80_4 u80_5 u80_6 u80_7 u80_8 u80_9 u.1 u.2.1 u.2.2.1 mw_23 u.2.2.2.1 mn_23 mu_23 u.2.2.2.2.1 u.2.2.2.2.2.1 u.2.2.2.2.2.2.1 u.2.2.2.2.2.2.2.1 u.2.2.2.2.2.2.2.2.1 u.2.2.2.2.2.2.2.2.2.1 u.2.2.2.2.2.2.2.2.2.2.1 u.2.2.2.2.2.2.2.2.2.2.2.1 u.2.2.2.2.2.2.2.2.2.2.2.2 u80_10)) hP (hK.sub [0] rfl) hD hN hS hA [15, 16, 17, 18, 19, 20, 21, 22, 23, 24, 25, 26] [0, 1, 2, 3, 4, 5, 6, 7, 8, 9, 10, 11, 12, 13, 14, 27] rfl rfl (by decide) (by decide) (by decide) [0, 1, 2, 3, 4, 5, 6, 7, 8, 9, 10, 11, 12, 13, 14, 16, 17, 18, 19, 20, 21, 22, 23, 24, 25, 26, 27, 15] (by decide) (fun _ => rfl) (fun hg => va_runV (As := [.int (xs ((v23_4 + 1)).toNatClampNeg)]) (rest := []) ⟨hx, hb, hml, hown, hts⟩ (c_X5_raise l D cI q8 n2_0 n2_1 n2_2 n2_3 n2_4 n2_5 n2_6 n2_7 n2_8 n2_9 n2_10 mr_23 mc_23 me_23 mw_23 mh_23 mn_23 mu_23 ms_23 mt_23 md_23 mz_23 mi_23 mk_23 mo_23 mj_23 ml_23 _ (xs ((v23_4 + 1)).toNatClampNeg) hq82) (cwV 1 hts gL_law_X5_raise rfl rfl rfl (by decide +kernel) ⟨Nat.le_of_ble_eq_true rfl, Nat.le_of_ble_eq_true rfl⟩) ⟨PW.blind, va_recv hK hP (ci := 5) (q0 := 15) rfl rfl, fun U hU hW => ⟨rfl, hg U hU hW⟩⟩ rfl rfl hl.1 rfl (lv_room ((by exact Nat.le_of_ble_eq_true rfl))) dL_law_613 ⟨(by show (kc + 2) + 0 ≤ 601024; omega), (by show (ks + 12) + 0 ≤ 7293034; omega)⟩) (fun r82 u H locs hw hP hD hS => ?_)
  obtain ⟨u82_0, u82_1, u82_2, u82_3, u82_4, u82_5, u82_6, u82_7, u82_8, u82_9, u82_10, u82_11, u82_12⟩ := u
  rw [hw] at he
  try dsimp only at he
  replace hp := hp r82 u82_0 u82_1 u82_2 u82_3 u82_4 u82_5 u82_6 u82_7 u82_8 u82_9 u82_10 u82_11 u82_12 hw
  have hP : va_P D vwCl (W_L cI cJ q0 n1_0 n1_1 n1_2 n1_3 n1_4 n1_5 n1_6 n1_7 n1_8 n1_9 n1_10 n1_11 n1_12 n1_13 q8 n2_0 n2_1 n2_2 n2_3 n2_4 n2_5 n2_6 n2_7 n2_8 n2_9 n2_10 o0 u80_0 xt_23 gn_23 gu_23 gb_23 ga_23 u80_1 u80_2 u80_3 u80_4 u80_5 u80_6 u80_7 u80_8 u80_9 u82_0 u82_1 u82_2 mw_23 u82_3 mn_23 mu_23 u82_4 u82_5 u82_6 u82_7 u82_8 u82_9 u82_10 u82_11 u82_12 u80_10) H := hP
  have hD : va_D A (W_L cI cJ q0 n1_0 n1_1 n1_2 n1_3 n1_4 n1_5 n1_6 n1_7 n1_8 n1_9 n1_10 n1_11 n1_12 n1_13 q8 n2_0 n2_1 n2_2 n2_3 n2_4 n2_5 n2_6 n2_7 n2_8 n2_9 n2_10 o0 u80_0 xt_23 gn_23 gu_23 gb_23 ga_23 u80_1 u80_2 u80_3 u80_4 u80_5 u80_6 u80_7 u80_8 u80_9 u82_0 u82_1 u82_2 mw_23 u82_3 mn_23 mu_23 u82_4 u82_5 u82_6 u82_7 u82_8 u82_9 u82_10 u82_11 u82_12 u80_10) := hD
  refine lv_istore (lv' := [(6, .int r82), (5, .int r80), (4, .int v23_4), (3, .ref o0), (2, .ref q8), (1, .ref q0), (0, .ref b0)]) hx hb dL_law_616 hl (by decide) rfl (fun ls hl => ?_)
  refine lv_aload_n hx hb dL_law_618 rfl (lv_at hl 4 rfl) ?_
  refine k_calli (S := Unit) (wc := (W_X5 cI q8 n2_0 n2_1 n2_2 n2_3 n2_4 n2_5 n2_6 n2_7 n2_8 n2_9 n2_10 u82_0 u82_1 u82_2 mw_23 u82_3 mn_23 mu_23 u82_4 u82_5 u82_6 u82_7 u82_8 u82_9 u82_10 u82_11 u82_12)) (wr := (W_O cI cJ q0 n1_0 n1_1 n1_2 n1_3 n1_4 n1_5 n1_6 n1_7 n1_8 n1_9 n1_10 n1_11 n1_12 n1_13 o0 u80_0 xt_23 gn_23 gu_23 gb_23 ga_23 u80_1 u80_2 u80_3 u80_4 u80_5 u80_6 u80_7 u80_8 u80_9 u80_10)) (w1 := fun u => (W_X5 cI q8 n2_0 n2_1 n2_2 n2_3 n2_4 n2_5 n2_6 n2_7 n2_8 n2_9 n2_10 u82_0 u82_1 u82_2 mw_23 u82_3 mn_23 mu_23 u82_4 u82_5 u82_6 u82_7 u82_8 u82_9 u82_10 u82_11 u82_12)) (fun u => (W_L cI cJ q0 n1_0 n1_1 n1_2 n1_3 n1_4 n1_5 n1_6 n1_7 n1_8 n1_9 n1_10 n1_11 n1_12 n1_13 q8 n2_0 n2_1 n2_2 n2_3 n2_4 n2_5 n2_6 n2_7 n2_8 n2_9 n2_10 o0 u80_0 xt_23 gn_23 gu_23 gb_23 ga_23 u80_1 u80_2 u80_3 u80_4 u80_5 u80_6 u80_7 u80_8 u80_9 u82_0 u82_1 u82_2 mw_23 u82_3 mn_23 mu_23 u82_4 u82_5 u82_6 u82_7 u82_8 u82_9 u82_10 u82_11 u82_12 u80_10)) hP (hK.sub [0] rfl) hD hN hS hA [15, 16, 17, 18, 19, 20, 21, 22, 23, 24, 25, 26] [0, 1, 2, 3, 4, 5, 6, 7, 8, 9, 10, 11, 12, 13, 14, 27] rfl rfl (by decide) (by decide) (by decide) [0, 1, 2, 3, 4, 5, 6, 7, 8, 9, 10, 11, 12, 13, 14, 16, 17, 18, 19, 20, 21, 22, 23, 24, 25, 26, 27, 15] (by decide) (fun _ => rfl) (fun hg => va_runV (As := []) (rest := []) ⟨hx, hb, hml, hown, hts⟩ (c_X5_thrown l D cI q8 n2_0 n2_1 n2_2 n2_3 n2_4 n2_5 n2_6 n2_7 n2_8 n2_9 n2_10 u82_0 u82_1 u82_2 mw_23 u82_3 mn_23 mu_23 u82_4 u82_5 u82_6 u82_7 u82_8 u82_9 u82_10 u82_11 u82_12 _ ) (cwV 0 hts gL_law_X5_thrown rfl rfl rfl (by decide +kernel) ⟨Nat.le_of_ble_eq_true rfl, Nat.le_of_ble_eq_true rfl⟩) ⟨PW.blind, va_recv hK hP (ci := 5) (q0 := 15) rfl rfl, fun U hU hW => ⟨rfl, hg U hU hW⟩⟩ rfl rfl hl.1 rfl (lv_room ((by exact Nat.le_of_ble_eq_true rfl))) dL_law_619 ⟨(by show (kc + 2) + 0 ≤ 601024; omega), (by show (ks + 12) + 0 ≤ 7293034; omega)⟩) (fun r83 u H locs hw hP hD hS => ?_)
  subst hw
  refine lv_iload hx hb dL_law_622 (lv_at hl 1 rfl) ?_
  refine lv_icmp_eq (tgt := 629) hx hb dL_law_624 (by decide) (fun c84 => ?_) (fun c84 => ?_)
  · replace hp := hp.1 c84
    replace he := he.trans (if_pos c84)
    refine lv_iload hx hb dL_law_629 (lv_at hl 1 rfl) ?_
    refine lv_if_ne (tgt := 646) hx hb dL_law_631 (by decide) (fun c85 => ?_) (fun c85 => ?_)
    · replace hp := hp.2 c85
      replace he := he.trans (if_neg c85)
      refine lv_goto (tgt := 1579) hx hb dL_law_646 (by decide) ?_
      refine lv_iinc (v := (v23_4 + 3)) (lv' := [(4, .int (v23_4 + 3)), (6, .int r82), (5, .int r80), (3, .ref o0), (2, .ref q8), (1, .ref q0), (0, .ref b0)]) hx hb dL_law_1579 hl (k := 2) rfl rfl (by decide) rfl (fun ls hl => ?_)
      refine lv_goto (tgt := 23) hx hb dL_law_1582 (by decide) ?_
      refine W.widen (k := kc + 3) (n := ks + 18) (by omega) (by omega) ?_
      exact ih _ _ _ _ _ _ _ _ _ _ _ _ _ _ _ _ _ _ _ _ _ _ _ _ _ _ _ _ _ _ _ _ _ (kc + 3) (ks + 18) (by omega) (by omega) hp he _ _ hP hD hS _ (lv_sub hl [0, 3, 4, 5, 6] rfl)
    · replace hp := hp.1 c85
      replace he := he.trans (if_pos c85)
      refine lv_aload_n hx hb dL_law_634 rfl (lv_at hl 3 rfl) ?_
      refine lv_iconst (v := 0) hx hb dL_law_635 (by decide) ?_
      refine va_lald hx hb hK hP 27 1 rfl rfl (by unfold vp_in; decide) dL_law_636 ?_
      refine lv_iload hx hb dL_law_637 (lv_at hl 0 rfl) ?_
      refine lv_i2l (v := (r82).toInt64) hx hb dL_law_639 rfl ?_
      refine W.lcmp hx hb dL_law_640 ?_
      refine lv_if_eq (tgt := 646) hx hb dL_law_641 (by decide) (fun c87 => ?_) (fun c87 => ?_)
      · replace hp := hp.1 c87
        replace he := he.trans (if_pos c87)
        refine lv_goto (tgt := 1579) hx hb dL_law_646 (by decide) ?_
        refine lv_iinc (v := (v23_4 + 3)) (lv' := [(4, .int (v23_4 + 3)), (6, .int r82), (5, .int r80), (3, .ref o0), (2, .ref q8), (1, .ref q0), (0, .ref b0)]) hx hb dL_law_1579 hl (k := 2) rfl rfl (by decide) rfl (fun ls hl => ?_)
        refine lv_goto (tgt := 23) hx hb dL_law_1582 (by decide) ?_
        refine W.widen (k := kc + 3) (n := ks + 18) (by omega) (by omega) ?_
        exact ih _ _ _ _ _ _ _ _ _ _ _ _ _ _ _ _ _ _ _ _ _ _ _ _ _ _ _ _ _ _ _ _ _ (kc + 3) (ks + 18) (by omega) (by omega) hp he _ _ hP hD hS _ (lv_sub hl [0, 3, 4, 5, 6] rfl)
      · replace hp := hp.2 c87
        replace he := he.trans (if_neg c87)
        refine lv_iconst (v := 0) hx hb dL_law_644 (by decide) ?_
        exact absurd he (by decide)
  · replace hp := hp.2 c84
    replace he := he.trans (if_neg c84)
    refine lv_iconst (v := 0) hx hb dL_law_627 (by decide) ?_
    exact absurd he (by decide)
set_option maxHeartbeats 8000000 in
set_option maxRecDepth 100000 in
theorem law_c13 {p : Program} {l : Launch} {e : Env} {s : State} {m : MethodId} {below : List Frame} {meth : Method} {c : Code} {D : va_G} {cI cJ : ClassId} {b0 L : Nat} {xs : Nat → Int32} {A : Nat → Prop} {q0 n1_0 n1_1 n1_2 n1_3 n1_4 n1_5 n1_6 n1_7 n1_8 n1_9 n1_10 n1_11 n1_12 n1_13 q8 n2_0 n2_1 n2_2 n2_3 n2_4 n2_5 n2_6 n2_7 n2_8 n2_9 n2_10 o0 : Nat} (hx : p.tables.exec = Jvm.exec) (hb : c.code = code) (hr : meth.sig.returnType = ret) (hml : c.maxLocals = 7) (hown : s.vm.findClass RL = some m.cls) (hts : ∀ w ∈ wsL_law, w.before #[Value.ref b0] s = true) (hX : va_X b0 L xs s s.heap) (hbl : b0 < s.heap.size) (hlocks : meth.locks = false) (hbA : ¬ A b0) (hA : ∀ q : Nat, s.heap.size ≤ q → A q) (hAle : ∀ q : Nat, A q → s.heap.size ≤ q) (hN : NB s) (hXB : XB A s s.heap) (hst : l.stackTraces = false) (hK : va_K D vwCl [(cI, .int), (cJ, .long)] s) {n : Nat} (ih : ∀ (v23_4 : Int32) (xr_23 : Int32) (xt_23 : Int32) (gn_23 : AA) (gu_23 : AA) (gb_23 : AA) (ga_23 : AA) (lc_23 : Int32) (lk_23 : AA) (ln_23 : AA) (lt_23 : AA) (ll_23 : AA) (lr_23 : AA) (tw_23 : Int32) (tn_23 : AA) (tt_23 : AA) (mr_23 : Int32) (mc_23 : Int32) (me_23 : Int32) (mw_23 : Int32) (mh_23 : Int32) (mn_23 : AA) (mu_23 : AA) (ms_23 : AA) (mt_23 : AA) (md_23 : AA) (mz_23 : AA) (mi_23 : AA) (mk_23 : AA) (mo_23 : AA) (mj_23 : AA) (ml_23 : AA) (oo_23 : LA) (kc ks : Nat), kc + n * 3 + 64 ≤ 601024 → ks + n * 18 + 64 ≤ 7293034 → p_L_law_L23 xs L n v23_4 xr_23 xt_23 gn_23 gu_23 gb_23 ga_23 lc_23 lk_23 ln_23 lt_23 ll_23 lr_23 tw_23 tn_23 tt_23 mr_23 mc_23 me_23 mw_23 mh_23 mn_23 mu_23 ms_23 mt_23 md_23 mz_23 mi_23 mk_23 mo_23 mj_23 ml_23 oo_23 → (1 : Int32) = f_L_law_L23 xs L n v23_4 xr_23 xt_23 gn_23 gu_23 gb_23 ga_23 lc_23 lk_23 ln_23 lt_23 ll_23 lr_23 tw_23 tn_23 tt_23 mr_23 mc_23 me_23 mw_23 mh_23 mn_23 mu_23 ms_23 mt_23 md_23 mz_23 mi_23 mk_23 mo_23 mj_23 ml_23 oo_23 → ∀ (H : Heap) (locs : List Loc), va_P D vwCl (W_L cI cJ q0 n1_0 n1_1 n1_2 n1_3 n1_4 n1_5 n1_6 n1_7 n1_8 n1_9 n1_10 n1_11 n1_12 n1_13 q8 n2_0 n2_1 n2_2 n2_3 n2_4 n2_5 n2_6 n2_7 n2_8 n2_9 n2_10 o0 xr_23 xt_23 gn_23 gu_23 gb_23 ga_23 lc_23 lk_23 ln_23 lt_23 ll_23 lr_23 tw_23 tn_23 tt_23 mr_23 mc_23 me_23 mw_23 mh_23 mn_23 mu_23 ms_23 mt_23 md_23 mz_23 mi_23 mk_23 mo_23 mj_23 ml_23 oo_23) H → va_D A (W_L cI cJ q0 n1_0 n1_1 n1_2 n1_3 n1_4 n1_5 n1_6 n1_7 n1_8 n1_9 n1_10 n1_11 n1_12 n1_13 q8 n2_0 n2_1 n2_2 n2_3 n2_4 n2_5 n2_6 n2_7 n2_8 n2_9 n2_10 o0 xr_23 xt_23 gn_23 gu_23 gb_23 ga_23 lc_23 lk_23 ln_23 lt_23 ll_23 lr_23 tw_23 tn_23 tt_23 mr_23 mc_23 me_23 mw_23 mh_23 mn_23 mu_23 ms_23 mt_23 md_23 mz_23 mi_23 mk_23 mo_23 mj_23 ml_23 oo_23) → va_S A s.heap H locs → ∀ ls : Array Slot, lv_has ls 7 [(4, .int v23_4), (3, .ref o0), (2, .ref q8), (1, .ref q0), (0, .ref b0)] → W p l e room_1 s m #[Value.ref b0] below meth c H locs kc ks (lw_Z below #[Value.ref b0] s) (F0 m 23 ls [])) (v23_4 : Int32) (xr_23 : Int32) (xt_23 : Int32) (gn_23 : AA) (gu_23 : AA) (gb_23 : AA) (ga_23 : AA) (lc_23 : Int32) (lk_23 : AA) (ln_23 : AA) (lt_23 : AA) (ll_23 : AA) (lr_23 : AA) (tw_23 : Int32) (tn_23 : AA) (tt_23 : AA) (mr_23 : Int32) (mc_23 : Int32) (me_23 : Int32) (mw_23 : Int32) (mh_23 : Int32) (mn_23 : AA) (mu_23 : AA) (ms_23 : AA) (mt_23 : AA) (md_23 : AA) (mz_23 : AA) (mi_23 : AA) (mk_23 : AA) (mo_23 : AA) (mj_23 : AA) (ml_23 : AA) (oo_23 : LA) (kc ks : Nat) (hkc : kc + (n + 1) * 3 + 64 ≤ 601024) (hks : ks + (n + 1) * 18 + 64 ≤ 7293034) (hp : p_L_c13 (p_L_law_L23 xs L n) xs L v23_4 xr_23 xt_23 gn_23 gu_23 gb_23 ga_23 lc_23 lk_23 ln_23 lt_23 ll_23 lr_23 tw_23 tn_23 tt_23 mr_23 mc_23 me_23 mw_23 mn_23 mu_23 ms_23 mt_23 md_23 mz_23 mi_23 mk_23 mo_23 mj_23 ml_23 oo_23) (he : (1 : Int32) = f_L_c13 (f_L_law_L23 xs L n) xs v23_4 xr_23 xt_23 gn_23 gu_23 gb_23 ga_23 lc_23 lk_23 ln_23 lt_23 ll_23 lr_23 tw_23 tn_23 tt_23 mr_23 mc_23 me_23 mw_23 mn_23 mu_23 ms_23 mt_23 md_23 mz_23 mi_23 mk_23 mo_23 mj_23 ml_23 oo_23) (H : Heap) (locs : List Loc) (hP : va_P D vwCl (W_L cI cJ q0 n1_0 n1_1 n1_2 n1_3 n1_4 n1_5 n1_6 n1_7 n1_8 n1_9 n1_10 n1_11 n1_12 n1_13 q8 n2_0 n2_1 n2_2 n2_3 n2_4 n2_5 n2_6 n2_7 n2_8 n2_9 n2_10 o0 xr_23 xt_23 gn_23 gu_23 gb_23 ga_23 lc_23 lk_23 ln_23 lt_23 ll_23 lr_23 tw_23 tn_23 tt_23 mr_23 mc_23 me_23 mw_23 mh_23 mn_23 mu_23 ms_23 mt_23 md_23 mz_23 mi_23 mk_23 mo_23 mj_23 ml_23 oo_23) H) (hD : va_D A (W_L cI cJ q0 n1_0 n1_1 n1_2 n1_3 n1_4 n1_5 n1_6 n1_7 n1_8 n1_9 n1_10 n1_11 n1_12 n1_13 q8 n2_0 n2_1 n2_2 n2_3 n2_4 n2_5 n2_6 n2_7 n2_8 n2_9 n2_10 o0 xr_23 xt_23 gn_23 gu_23 gb_23 ga_23 lc_23 lk_23 ln_23 lt_23 ll_23 lr_23 tw_23 tn_23 tt_23 mr_23 mc_23 me_23 mw_23 mh_23 mn_23 mu_23 ms_23 mt_23 md_23 mz_23 mi_23 mk_23 mo_23 mj_23 ml_23 oo_23)) (hS : va_S A s.heap H locs) (ls : Array Slot) (hl : lv_has ls 7 [(4, .int v23_4), (3, .ref o0), (2, .ref q8), (1, .ref q0), (0, .ref b0)]) : W p l e room_1 s m #[Value.ref b0] below meth c H locs kc ks (lw_Z below #[Value.ref b0] s) (F0 m 898 ls []) := by
  replace he := he.trans (f_L_c13.eq_1 ..)
  replace hp := Eq.mp (p_L_c13.eq_1 ..) hp
  refine lv_aload_n hx hb dL_law_898 rfl (lv_at hl 3 rfl) ?_
  refine lv_aload_n hx hb dL_law_899 rfl (lv_at hl 4 rfl) ?_
  refine lv_iload hx hb dL_law_900 (lv_at hl 0 rfl) ?_
  refine lv_iconst (v := 1) hx hb dL_law_902 (by decide) ?_
  refine lv_iadd hx hb dL_law_903 ?_
  have h129 := hp.1
  replace hp := hp.2
  refine va_sld hx hb hX hbl hbA hS h129 dL_law_904 ?_
  refine lv_aload_n hx hb dL_law_905 rfl (lv_at hl 1 rfl) ?_
  have hq130 := hp.1
  replace hp := hp.2
  refine k_ycalli (S := LA) (wc := (W_O cI cJ q0 n1_0 n1_1 n1_2 n1_3 n1_4 n1_5 n1_6 n1_7 n1_8 n1_9 n1_10 n1_11 n1_12 n1_13 o0 xr_23 xt_23 gn_23 gu_23 gb_23 ga_23 lc_23 lk_23 ln_23 lt_23 ll_23 lr_23 tw_23 tn_23 tt_23 oo_23)) (wr := (W_X5 cI q8 n2_0 n2_1 n2_2 n2_3 n2_4 n2_5 n2_6 n2_7 n2_8 n2_9 n2_10 mr_23 mc_23 me_23 mw_23 mh_23 mn_23 mu_23 ms_23 mt_23 md_23 mz_23 mi_23 mk_23 mo_23 mj_23 ml_23)) (w1 := fun u => (W_O cI cJ q0 n1_0 n1_1 n1_2 n1_3 n1_4 n1_5 n1_6 n1_7 n1_8 n1_9 n1_10 n1_11 n1_12 n1_13 o0 xr_23 xt_23 gn_23 gu_23 gb_23 ga_23 lc_23 lk_23 ln_23 lt_23 ll_23 lr_23 tw_23 tn_23 tt_23 u)) (fun u => (W_L cI cJ q0 n1_0 n1_1 n1_2 n1_3 n1_4 n1_5 n1_6 n1_7 n1_8 n1_9 n1_10 n1_11 n1_12 n1_13 q8 n2_0 n2_1 n2_2 n2_3 n2_4 n2_5 n2_6 n2_7 n2_8 n2_9 n2_10 o0 xr_23 xt_23 gn_23 gu_23 gb_23 ga_23 lc_23 lk_23 ln_23 lt_23 ll_23 lr_23 tw_23 tn_23 tt_23 mr_23 mc_23 me_23 mw_23 mh_23 mn_23 mu_23 ms_23 mt_23 md_23 mz_23 mi_23 mk_23 mo_23 mj_23 ml_23 u)) hP hK hD hN hXB hS hA [0, 1, 2, 3, 4, 5, 6, 7, 8, 9, 10, 11, 12, 13, 14, 27] [15, 16, 17, 18, 19, 20, 21, 22, 23, 24, 25, 26] rfl rfl (by decide) (by decide) (by decide) [12, 13, 14, 15, 16, 17, 18, 19, 20, 21, 22, 23, 24, 25, 26, 0, 1, 2, 3, 4, 5, 6, 7, 8, 9, 10, 11, 27] (by decide) (fun _ => rfl) (fun hg => vx_runSW (As := [.ref q0, .int (xs ((v23_4 + 1)).toNatClampNeg), .ref o0]) (rest := []) ⟨hx, hb, hml, hown, hts⟩ (c_L_eventKind l D cI cJ q0 n1_0 n1_1 n1_2 n1_3 n1_4 n1_5 n1_6 n1_7 n1_8 n1_9 n1_10 n1_11 n1_12 n1_13 o0 xr_23 xt_23 gn_23 gu_23 gb_23 ga_23 lc_23 lk_23 ln_23 lt_23 ll_23 lr_23 tw_23 tn_23 tt_23 oo_23 _ (xs ((v23_4 + 1)).toNatClampNeg) hq130 hst) (vx_cwSW 3 hts gL_law_L_eventKind rfl rfl rfl (by decide +kernel) ⟨Nat.le_of_ble_eq_true rfl, Nat.le_of_ble_eq_true rfl⟩) ⟨PX.blind, fun U hU hW => ⟨rfl, hg U hU hW⟩⟩ rfl rfl hl.1 rfl (lv_room ((by exact Nat.le_of_ble_eq_true rfl))) dL_law_906 ⟨(by show kc + 1 ≤ 601024; omega), (by show ks + 6 ≤ 7293034; omega)⟩) (fun r130 u H locs hw hP hD hS => ?_)
  obtain ⟨u130_0, rfl⟩ : ∃ z, z = u := ⟨_, rfl⟩
  rw [hw] at he
  try dsimp only at he
  replace hp := hp r130 u130_0 hw
  have hP : va_P D vwCl (W_L cI cJ q0 n1_0 n1_1 n1_2 n1_3 n1_4 n1_5 n1_6 n1_7 n1_8 n1_9 n1_10 n1_11 n1_12 n1_13 q8 n2_0 n2_1 n2_2 n2_3 n2_4 n2_5 n2_6 n2_7 n2_8 n2_9 n2_10 o0 xr_23 xt_23 gn_23 gu_23 gb_23 ga_23 lc_23 lk_23 ln_23 lt_23 ll_23 lr_23 tw_23 tn_23 tt_23 mr_23 mc_23 me_23 mw_23 mh_23 mn_23 mu_23 ms_23 mt_23 md_23 mz_23 mi_23 mk_23 mo_23 mj_23 ml_23 u130_0) H := hP
  have hD : va_D A (W_L cI cJ q0 n1_0 n1_1 n1_2 n1_3 n1_4 n1_5 n1_6 n1_7 n1_8 n1_9 n1_10 n1_11 n1_12 n1_13 q8 n2_0 n2_1 n2_2 n2_3 n2_4 n2_5 n2_6 n2_7 n2_8 n2_9 n2_10 o0 xr_23 xt_23 gn_23 gu_23 gb_23 ga_23 lc_23 lk_23 ln_23 lt_23 ll_23 lr_23 tw_23 tn_23 tt_23 mr_23 mc_23 me_23 mw_23 mh_23 mn_23 mu_23 ms_23 mt_23 md_23 mz_23 mi_23 mk_23 mo_23 mj_23 ml_23 u130_0) := hD
  refine lv_istore (lv' := [(5, .int r130), (4, .int v23_4), (3, .ref o0), (2, .ref q8), (1, .ref q0), (0, .ref b0)]) hx hb dL_law_909 hl (by decide) rfl (fun ls hl => ?_)
  refine lv_aload_n hx hb dL_law_911 rfl (lv_at hl 3 rfl) ?_
  refine lv_aload_n hx hb dL_law_912 rfl (lv_at hl 5 rfl) ?_
  refine lv_iload hx hb dL_law_913 (lv_at hl 1 rfl) ?_
  refine lv_iconst (v := 1) hx hb dL_law_915 (by decide) ?_
  refine lv_iadd hx hb dL_law_916 ?_
  have h131 := hp.1
  replace hp := hp.2
  refine va_sld hx hb hX hbl hbA hS h131 dL_law_917 ?_
  have hq132 := hp.1
  replace hp := hp.2
  refine k_calli (S := Int32) (wc := (W_X5 cI q8 n2_0 n2_1 n2_2 n2_3 n2_4 n2_5 n2_6 n2_7 n2_8 n2_9 n2_10 mr_23 mc_23 me_23 mw_23 mh_23 mn_23 mu_23 ms_23 mt_23 md_23 mz_23 mi_23 mk_23 mo_23 mj_23 ml_23)) (wr := (W_O cI cJ q0 n1_0 n1_1 n1_2 n1_3 n1_4 n1_5 n1_6 n1_7 n1_8 n1_9 n1_10 n1_11 n1_12 n1_13 o0 xr_23 xt_23 gn_23 gu_23 gb_23 ga_23 lc_23 lk_23 ln_23 lt_23 ll_23 lr_23 tw_23 tn_23 tt_23 u130_0)) (w1 := fun u => (W_X5 cI q8 n2_0 n2_1 n2_2 n2_3 n2_4 n2_5 n2_6 n2_7 n2_8 n2_9 n2_10 mr_23 mc_23 me_23 mw_23 u mn_23 mu_23 ms_23 mt_23 md_23 mz_23 mi_23 mk_23 mo_23 mj_23 ml_23)) (fun u => (W_L cI cJ q0 n1_0 n1_1 n1_2 n1_3 n1_4 n1_5 n1_6 n1_7 n1_8 n1_9 n1_10 n1_11 n1_12 n1_13 q8 n2_0 n2_1 n2_2 n2_3 n2_4 n2_5 n2_6 n2_7 n2_8 n2_9 n2_10 o0 xr_23 xt_23 gn_23 gu_23 gb_23 ga_23 lc_23 lk_23 ln_23 lt_23 ll_23 lr_23 tw_23 tn_23 tt_23 mr_23 mc_23 me_23 mw_23 u mn_23 mu_23 ms_23 mt_23 md_23 mz_23 mi_23 mk_23 mo_23 mj_23 ml_23 u130_0)) hP (hK.sub [0] rfl) hD hN hS hA [15, 16, 17, 18, 19, 20, 21, 22, 23, 24, 25, 26] [0, 1, 2, 3, 4, 5, 6, 7, 8, 9, 10, 11, 12, 13, 14, 27] rfl rfl (by decide) (by decide) (by decide) [0, 1, 2, 3, 4, 5, 6, 7, 8, 9, 10, 11, 12, 13, 14, 16, 17, 18, 19, 20, 21, 22, 23, 24, 25, 26, 27, 15] (by decide) (fun _ => rfl) (fun hg => va_runV (As := [.int (xs ((v23_4 + 1)).toNatClampNeg)]) (rest := []) ⟨hx, hb, hml, hown, hts⟩ (c_X5_eventKind l D cI q8 n2_0 n2_1 n2_2 n2_3 n2_4 n2_5 n2_6 n2_7 n2_8 n2_9 n2_10 mr_23 mc_23 me_23 mw_23 mh_23 mn_23 mu_23 ms_23 mt_23 md_23 mz_23 mi_23 mk_23 mo_23 mj_23 ml_23 _ (xs ((v23_4 + 1)).toNatClampNeg) hq132) (cwV 1 hts gL_law_X5_eventKind rfl rfl rfl (by decide +kernel) ⟨Nat.le_of_ble_eq_true rfl, Nat.le_of_ble_eq_true rfl⟩) ⟨PW.blind, va_recv hK hP (ci := 5) (q0 := 15) rfl rfl, fun U hU hW => ⟨rfl, hg U hU hW⟩⟩ rfl rfl hl.1 rfl (lv_room ((by exact Nat.le_of_ble_eq_true rfl))) dL_law_918 ⟨(by show (kc + 1) + 0 ≤ 601024; omega), (by show (ks + 6) + 0 ≤ 7293034; omega)⟩) (fun r132 u H locs hw hP hD hS => ?_)
  obtain ⟨u132_0, rfl⟩ : ∃ z, z = u := ⟨_, rfl⟩
  rw [hw] at he
  try dsimp only at he
  replace hp := hp r132 u132_0 hw
  have hP : va_P D vwCl (W_L cI cJ q0 n1_0 n1_1 n1_2 n1_3 n1_4 n1_5 n1_6 n1_7 n1_8 n1_9 n1_10 n1_11 n1_12 n1_13 q8 n2_0 n2_1 n2_2 n2_3 n2_4 n2_5 n2_6 n2_7 n2_8 n2_9 n2_10 o0 xr_23 xt_23 gn_23 gu_23 gb_23 ga_23 lc_23 lk_23 ln_23 lt_23 ll_23 lr_23 tw_23 tn_23 tt_23 mr_23 mc_23 me_23 mw_23 u132_0 mn_23 mu_23 ms_23 mt_23 md_23 mz_23 mi_23 mk_23 mo_23 mj_23 ml_23 u130_0) H := hP
  have hD : va_D A (W_L cI cJ q0 n1_0 n1_1 n1_2 n1_3 n1_4 n1_5 n1_6 n1_7 n1_8 n1_9 n1_10 n1_11 n1_12 n1_13 q8 n2_0 n2_1 n2_2 n2_3 n2_4 n2_5 n2_6 n2_7 n2_8 n2_9 n2_10 o0 xr_23 xt_23 gn_23 gu_23 gb_23 ga_23 lc_23 lk_23 ln_23 lt_23 ll_23 lr_23 tw_23 tn_23 tt_23 mr_23 mc_23 me_23 mw_23 u132_0 mn_23 mu_23 ms_23 mt_23 md_23 mz_23 mi_23 mk_23 mo_23 mj_23 ml_23 u130_0) := hD
  refine lv_istore (lv' := [(6, .int r132), (5, .int r130), (4, .int v23_4), (3, .ref o0), (2, .ref q8), (1, .ref q0), (0, .ref b0)]) hx hb dL_law_921 hl (by decide) rfl (fun ls hl => ?_)
  refine lv_aload_n hx hb dL_law_923 rfl (lv_at hl 4 rfl) ?_
  refine k_calli (S := Unit) (wc := (W_X5 cI q8 n2_0 n2_1 n2_2 n2_3 n2_4 n2_5 n2_6 n2_7 n2_8 n2_9 n2_10 mr_23 mc_23 me_23 mw_23 u132_0 mn_23 mu_23 ms_23 mt_23 md_23 mz_23 mi_23 mk_23 mo_23 mj_23 ml_23)) (wr := (W_O cI cJ q0 n1_0 n1_1 n1_2 n1_3 n1_4 n1_5 n1_6 n1_7 n1_8 n1_9 n1_10 n1_11 n1_12 n1_13 o0 xr_23 xt_23 gn_23 gu_23 gb_23 ga_23 lc_23 lk_23 ln_23 lt_23 ll_23 lr_23 tw_23 tn_23 tt_23 u130_0)) (w1 := fun u => (W_X5 cI q8 n2_0 n2_1 n2_2 n2_3 n2_4 n2_5 n2_6 n2_7 n2_8 n2_9 n2_10 mr_23 mc_23 me_23 mw_23 u132_0 mn_23 mu_23 ms_23 mt_23 md_23 mz_23 mi_23 mk_23 mo_23 mj_23 ml_23)) (fun u => (W_L cI cJ q0 n1_0 n1_1 n1_2 n1_3 n1_4 n1_5 n1_6 n1_7 n1_8 n1_9 n1_10 n1_11 n1_12 n1_13 q8 n2_0 n2_1 n2_2 n2_3 n2_4 n2_5 n2_6 n2_7 n2_8 n2_9 n2_10 o0 xr_23 xt_23 gn_23 gu_23 gb_23 ga_23 lc_23 lk_23 ln_23 lt_23 ll_23 lr_23 tw_23 tn_23 tt_23 mr_23 mc_23 me_23 mw_23 u132_0 mn_23 mu_23 ms_23 mt_23 md_23 mz_23 mi_23 mk_23 mo_23 mj_23 ml_23 u130_0)) hP (hK.sub [0] rfl) hD hN hS hA [15, 16, 17, 18, 19, 20, 21, 22, 23, 24, 25, 26] [0, 1, 2, 3, 4, 5, 6, 7, 8, 9, 10, 11, 12, 13, 14, 27] rfl rfl (by decide) (by decide) (by decide) [0, 1, 2, 3, 4, 5, 6, 7, 8, 9, 10, 11, 12, 13, 14, 16, 17, 18, 19, 20, 21, 22, 23, 24, 25, 26, 27, 15] (by decide) (fun _ => rfl) (fun hg => va_runV (As := []) (rest := []) ⟨hx, hb, hml, hown, hts⟩ (c_X5_thrown l D cI q8 n2_0 n2_1 n2_2 n2_3 n2_4 n2_5 n2_6 n2_7 n2_8 n2_9 n2_10 mr_23 mc_23 me_23 mw_23 u132_0 mn_23 mu_23 ms_23 mt_23 md_23 mz_23 mi_23 mk_23 mo_23 mj_23 ml_23 _ ) (cwV 0 hts gL_law_X5_thrown rfl rfl rfl (by decide +kernel) ⟨Nat.le_of_ble_eq_true rfl, Nat.le_of_ble_eq_true rfl⟩) ⟨PW.blind, va_recv hK hP (ci := 5) (q0 := 15) rfl rfl, fun U hU hW => ⟨rfl, hg U hU hW⟩⟩ rfl rfl hl.1 rfl (lv_room ((by exact Nat.le_of_ble_eq_true rfl))) dL_law_924 ⟨(by show (kc + 1) + 0 ≤ 601024; omega), (by show (ks + 6) + 0 ≤ 7293034; omega)⟩) (fun r133 u H locs hw hP hD hS => ?_)
  subst hw
  refine lv_iload hx hb dL_law_927 (lv_at hl 1 rfl) ?_
  refine lv_icmp_eq (tgt := 934) hx hb dL_law_929 (by decide) (fun c134 => ?_) (fun c134 => ?_)
  · replace hp := hp.1 c134
    replace he := he.trans (if_pos c134)
    refine lv_iload hx hb dL_law_934 (lv_at hl 1 rfl) ?_
    refine lv_if_ne (tgt := 951) hx hb dL_law_936 (by decide) (fun c135 => ?_) (fun c135 => ?_)
    · replace hp := hp.2 c135
      replace he := he.trans (if_neg c135)
      refine lv_goto (tgt := 1579) hx hb dL_law_951 (by decide) ?_
      refine lv_iinc (v := (v23_4 + 3)) (lv' := [(4, .int (v23_4 + 3)), (6, .int r132), (5, .int r130), (3, .ref o0), (2, .ref q8), (1, .ref q0), (0, .ref b0)]) hx hb dL_law_1579 hl (k := 2) rfl rfl (by decide) rfl (fun ls hl => ?_)
      refine lv_goto (tgt := 23) hx hb dL_law_1582 (by decide) ?_
      refine W.widen (k := kc + 3) (n := ks + 18) (by omega) (by omega) ?_
      exact ih _ _ _ _ _ _ _ _ _ _ _ _ _ _ _ _ _ _ _ _ _ _ _ _ _ _ _ _ _ _ _ _ _ (kc + 3) (ks + 18) (by omega) (by omega) hp he _ _ hP hD hS _ (lv_sub hl [0, 3, 4, 5, 6] rfl)
    · replace hp := hp.1 c135
      replace he := he.trans (if_pos c135)
      refine lv_aload_n hx hb dL_law_939 rfl (lv_at hl 3 rfl) ?_
      refine lv_iconst (v := 0) hx hb dL_law_940 (by decide) ?_
      refine va_lald hx hb hK hP 27 1 rfl rfl (by unfold vp_in; decide) dL_law_941 ?_
      refine lv_iload hx hb dL_law_942 (lv_at hl 0 rfl) ?_
      refine lv_i2l (v := (r132).toInt64) hx hb dL_law_944 rfl ?_
      refine W.lcmp hx hb dL_law_945 ?_
      refine lv_if_eq (tgt := 951) hx hb dL_law_946 (by decide) (fun c137 => ?_) (fun c137 => ?_)
      · replace hp := hp.1 c137
        replace he := he.trans (if_pos c137)
        refine lv_goto (tgt := 1579) hx hb dL_law_951 (by decide) ?_
        refine lv_iinc (v := (v23_4 + 3)) (lv' := [(4, .int (v23_4 + 3)), (6, .int r132), (5, .int r130), (3, .ref o0), (2, .ref q8), (1, .ref q0), (0, .ref b0)]) hx hb dL_law_1579 hl (k := 2) rfl rfl (by decide) rfl (fun ls hl => ?_)
        refine lv_goto (tgt := 23) hx hb dL_law_1582 (by decide) ?_
        refine W.widen (k := kc + 3) (n := ks + 18) (by omega) (by omega) ?_
        exact ih _ _ _ _ _ _ _ _ _ _ _ _ _ _ _ _ _ _ _ _ _ _ _ _ _ _ _ _ _ _ _ _ _ (kc + 3) (ks + 18) (by omega) (by omega) hp he _ _ hP hD hS _ (lv_sub hl [0, 3, 4, 5, 6] rfl)
      · replace hp := hp.2 c137
        replace he := he.trans (if_neg c137)
        refine lv_iconst (v := 0) hx hb dL_law_949 (by decide) ?_
        exact absurd he (by decide)
  · replace hp := hp.2 c134
    replace he := he.trans (if_neg c134)
    refine lv_iconst (v := 0) hx hb dL_law_932 (by decide) ?_
    exact absurd he (by decide)
set_option maxHeartbeats 8000000 in
set_option maxRecDepth 100000 in
theorem law_c19 {p : Program} {l : Launch} {e : Env} {s : State} {m : MethodId} {below : List Frame} {meth : Method} {c : Code} {D : va_G} {cI cJ : ClassId} {b0 L : Nat} {xs : Nat → Int32} {A : Nat → Prop} {q0 n1_0 n1_1 n1_2 n1_3 n1_4 n1_5 n1_6 n1_7 n1_8 n1_9 n1_10 n1_11 n1_12 n1_13 q8 n2_0 n2_1 n2_2 n2_3 n2_4 n2_5 n2_6 n2_7 n2_8 n2_9 n2_10 o0 : Nat} (hx : p.tables.exec = Jvm.exec) (hb : c.code = code) (hr : meth.sig.returnType = ret) (hml : c.maxLocals = 7) (hown : s.vm.findClass RL = some m.cls) (hts : ∀ w ∈ wsL_law, w.before #[Value.ref b0] s = true) (hX : va_X b0 L xs s s.heap) (hbl : b0 < s.heap.size) (hlocks : meth.locks = false) (hbA : ¬ A b0) (hA : ∀ q : Nat, s.heap.size ≤ q → A q) (hAle : ∀ q : Nat, A q → s.heap.size ≤ q) (hN : NB s) (hXB : XB A s s.heap) (hst : l.stackTraces = false) (hK : va_K D vwCl [(cI, .int), (cJ, .long)] s) {n : Nat} (ih : ∀ (v23_4 : Int32) (xr_23 : Int32) (xt_23 : Int32) (gn_23 : AA) (gu_23 : AA) (gb_23 : AA) (ga_23 : AA) (lc_23 : Int32) (lk_23 : AA) (ln_23 : AA) (lt_23 : AA) (ll_23 : AA) (lr_23 : AA) (tw_23 : Int32) (tn_23 : AA) (tt_23 : AA) (mr_23 : Int32) (mc_23 : Int32) (me_23 : Int32) (mw_23 : Int32) (mh_23 : Int32) (mn_23 : AA) (mu_23 : AA) (ms_23 : AA) (mt_23 : AA) (md_23 : AA) (mz_23 : AA) (mi_23 : AA) (mk_23 : AA) (mo_23 : AA) (mj_23 : AA) (ml_23 : AA) (oo_23 : LA) (kc ks : Nat), kc + n * 3 + 64 ≤ 601024 → ks + n * 18 + 64 ≤ 7293034 → p_L_law_L23 xs L n v23_4 xr_23 xt_23 gn_23 gu_23 gb_23 ga_23 lc_23 lk_23 ln_23 lt_23 ll_23 lr_23 tw_23 tn_23 tt_23 mr_23 mc_23 me_23 mw_23 mh_23 mn_23 mu_23 ms_23 mt_23 md_23 mz_23 mi_23 mk_23 mo_23 mj_23 ml_23 oo_23 → (1 : Int32) = f_L_law_L23 xs L n v23_4 xr_23 xt_23 gn_23 gu_23 gb_23 ga_23 lc_23 lk_23 ln_23 lt_23 ll_23 lr_23 tw_23 tn_23 tt_23 mr_23 mc_23 me_23 mw_23 mh_23 mn_23 mu_23 ms_23 mt_23 md_23 mz_23 mi_23 mk_23 mo_23 mj_23 ml_23 oo_23 → ∀ (H : Heap) (locs : List Loc), va_P D vwCl (W_L cI cJ q0 n1_0 n1_1 n1_2 n1_3 n1_4 n1_5 n1_6 n1_7 n1_8 n1_9 n1_10 n1_11 n1_12 n1_13 q8 n2_0 n2_1 n2_2 n2_3 n2_4 n2_5 n2_6 n2_7 n2_8 n2_9 n2_10 o0 xr_23 xt_23 gn_23 gu_23 gb_23 ga_23 lc_23 lk_23 ln_23 lt_23 ll_23 lr_23 tw_23 tn_23 tt_23 mr_23 mc_23 me_23 mw_23 mh_23 mn_23 mu_23 ms_23 mt_23 md_23 mz_23 mi_23 mk_23 mo_23 mj_23 ml_23 oo_23) H → va_D A (W_L cI cJ q0 n1_0 n1_1 n1_2 n1_3 n1_4 n1_5 n1_6 n1_7 n1_8 n1_9 n1_10 n1_11 n1_12 n1_13 q8 n2_0 n2_1 n2_2 n2_3 n2_4 n2_5 n2_6 n2_7 n2_8 n2_9 n2_10 o0 xr_23 xt_23 gn_23 gu_23 gb_23 ga_23 lc_23 lk_23 ln_23 lt_23 ll_23 lr_23 tw_23 tn_23 tt_23 mr_23 mc_23 me_23 mw_23 mh_23 mn_23 mu_23 ms_23 mt_23 md_23 mz_23 mi_23 mk_23 mo_23 mj_23 ml_23 oo_23) → va_S A s.heap H locs → ∀ ls : Array Slot, lv_has ls 7 [(4, .int v23_4), (3, .ref o0), (2, .ref q8), (1, .ref q0), (0, .ref b0)] → W p l e room_1 s m #[Value.ref b0] below meth c H locs kc ks (lw_Z below #[Value.ref b0] s) (F0 m 23 ls [])) (v23_4 : Int32) (xr_23 : Int32) (xt_23 : Int32) (gn_23 : AA) (gu_23 : AA) (gb_23 : AA) (ga_23 : AA) (lc_23 : Int32) (lk_23 : AA) (ln_23 : AA) (lt_23 : AA) (ll_23 : AA) (lr_23 : AA) (tw_23 : Int32) (tn_23 : AA) (tt_23 : AA) (mr_23 : Int32) (mc_23 : Int32) (me_23 : Int32) (mw_23 : Int32) (mh_23 : Int32) (mn_23 : AA) (mu_23 : AA) (ms_23 : AA) (mt_23 : AA) (md_23 : AA) (mz_23 : AA) (mi_23 : AA) (mk_23 : AA) (mo_23 : AA) (mj_23 : AA) (ml_23 : AA) (oo_23 : LA) (kc ks : Nat) (hkc : kc + (n + 1) * 3 + 64 ≤ 601024) (hks : ks + (n + 1) * 18 + 64 ≤ 7293034) (hp : p_L_c19 (p_L_law_L23 xs L n) xs L v23_4 xr_23 xt_23 gn_23 gu_23 gb_23 ga_23 lc_23 lk_23 ln_23 lt_23 ll_23 lr_23 tw_23 tn_23 tt_23 mr_23 mc_23 me_23 mw_23 mn_23 mu_23 ms_23 mt_23 md_23 mz_23 mi_23 mk_23 mo_23 mj_23 ml_23 oo_23) (he : (1 : Int32) = f_L_c19 (f_L_law_L23 xs L n) xs v23_4 xr_23 xt_23 gn_23 gu_23 gb_23 ga_23 lc_23 lk_23 ln_23 lt_23 ll_23 lr_23 tw_23 tn_23 tt_23 mr_23 mc_23 me_23 mw_23 mn_23 mu_23 ms_23 mt_23 md_23 mz_23 mi_23 mk_23 mo_23 mj_23 ml_23 oo_23) (H : Heap) (locs : List Loc) (hP : va_P D vwCl (W_L cI cJ q0 n1_0 n1_1 n1_2 n1_3 n1_4 n1_5 n1_6 n1_7 n1_8 n1_9 n1_10 n1_11 n1_12 n1_13 q8 n2_0 n2_1 n2_2 n2_3 n2_4 n2_5 n2_6 n2_7 n2_8 n2_9 n2_10 o0 xr_23 xt_23 gn_23 gu_23 gb_23 ga_23 lc_23 lk_23 ln_23 lt_23 ll_23 lr_23 tw_23 tn_23 tt_23 mr_23 mc_23 me_23 mw_23 mh_23 mn_23 mu_23 ms_23 mt_23 md_23 mz_23 mi_23 mk_23 mo_23 mj_23 ml_23 oo_23) H) (hD : va_D A (W_L cI cJ q0 n1_0 n1_1 n1_2 n1_3 n1_4 n1_5 n1_6 n1_7 n1_8 n1_9 n1_10 n1_11 n1_12 n1_13 q8 n2_0 n2_1 n2_2 n2_3 n2_4 n2_5 n2_6 n2_7 n2_8 n2_9 n2_10 o0 xr_23 xt_23 gn_23 gu_23 gb_23 ga_23 lc_23 lk_23 ln_23 lt_23 ll_23 lr_23 tw_23 tn_23 tt_23 mr_23 mc_23 me_23 mw_23 mh_23 mn_23 mu_23 ms_23 mt_23 md_23 mz_23 mi_23 mk_23 mo_23 mj_23 ml_23 oo_23)) (hS : va_S A s.heap H locs) (ls : Array Slot) (hl : lv_has ls 7 [(4, .int v23_4), (3, .ref o0), (2, .ref q8), (1, .ref q0), (0, .ref b0)]) : W p l e room_1 s m #[Value.ref b0] below meth c H locs kc ks (lw_Z below #[Value.ref b0] s) (F0 m 1191 ls []) := by
  replace he := he.trans (f_L_c19.eq_1 ..)
  replace hp := Eq.mp (p_L_c19.eq_1 ..) hp
  refine lv_aload_n hx hb dL_law_1191 rfl (lv_at hl 3 rfl) ?_
  refine lv_aload_n hx hb dL_law_1192 rfl (lv_at hl 4 rfl) ?_
  refine lv_iload hx hb dL_law_1193 (lv_at hl 0 rfl) ?_
  refine lv_iconst (v := 1) hx hb dL_law_1195 (by decide) ?_
  refine lv_iadd hx hb dL_law_1196 ?_
  have h177 := hp.1
  replace hp := hp.2
  refine va_sld hx hb hX hbl hbA hS h177 dL_law_1197 ?_
  have hq178 := hp.1
  replace hp := hp.2
  refine k_calli (S := Unit) (wc := (W_X4 cI q0 n1_0 n1_1 n1_2 n1_3 n1_4 n1_5 n1_6 n1_7 n1_8 n1_9 n1_10 n1_11 n1_12 n1_13 xr_23 xt_23 gn_23 gu_23 gb_23 ga_23 lc_23 lk_23 ln_23 lt_23 ll_23 lr_23 tw_23 tn_23 tt_23)) (wr := ((W_X5 cI q8 n2_0 n2_1 n2_2 n2_3 n2_4 n2_5 n2_6 n2_7 n2_8 n2_9 n2_10 mr_23 mc_23 me_23 mw_23 mh_23 mn_23 mu_23 ms_23 mt_23 md_23 mz_23 mi_23 mk_23 mo_23 mj_23 ml_23) ++ [(o0, .inl (cJ, 1, .inr (.inl oo_23)))])) (w1 := fun u => (W_X4 cI q0 n1_0 n1_1 n1_2 n1_3 n1_4 n1_5 n1_6 n1_7 n1_8 n1_9 n1_10 n1_11 n1_12 n1_13 xr_23 xt_23 gn_23 gu_23 gb_23 ga_23 lc_23 lk_23 ln_23 lt_23 ll_23 lr_23 tw_23 tn_23 tt_23)) (fun u => (W_L cI cJ q0 n1_0 n1_1 n1_2 n1_3 n1_4 n1_5 n1_6 n1_7 n1_8 n1_9 n1_10 n1_11 n1_12 n1_13 q8 n2_0 n2_1 n2_2 n2_3 n2_4 n2_5 n2_6 n2_7 n2_8 n2_9 n2_10 o0 xr_23 xt_23 gn_23 gu_23 gb_23 ga_23 lc_23 lk_23 ln_23 lt_23 ll_23 lr_23 tw_23 tn_23 tt_23 mr_23 mc_23 me_23 mw_23 mh_23 mn_23 mu_23 ms_23 mt_23 md_23 mz_23 mi_23 mk_23 mo_23 mj_23 ml_23 oo_23)) hP (hK.sub [0] rfl) hD hN hS hA [0, 1, 2, 3, 4, 5, 6, 7, 8, 9, 10, 11, 12, 13, 14] [15, 16, 17, 18, 19, 20, 21, 22, 23, 24, 25, 26, 27] rfl rfl (by decide) (by decide) (by decide) [13, 14, 15, 16, 17, 18, 19, 20, 21, 22, 23, 24, 25, 26, 27, 0, 1, 2, 3, 4, 5, 6, 7, 8, 9, 10, 11, 12] (by decide) (fun _ => rfl) (fun hg => va_runV (As := [.int (xs ((v23_4 + 1)).toNatClampNeg)]) (rest := []) ⟨hx, hb, hml, hown, hts⟩ (c_X4_ticketState l D cI q0 n1_0 n1_1 n1_2 n1_3 n1_4 n1_5 n1_6 n1_7 n1_8 n1_9 n1_10 n1_11 n1_12 n1_13 xr_23 xt_23 gn_23 gu_23 gb_23 ga_23 lc_23 lk_23 ln_23 lt_23 ll_23 lr_23 tw_23 tn_23 tt_23 _ (xs ((v23_4 + 1)).toNatClampNeg) hq178) (cwV 1 hts gL_law_X4_ticketState rfl rfl rfl (by decide +kernel) ⟨Nat.le_of_ble_eq_true rfl, Nat.le_of_ble_eq_true rfl⟩) ⟨PW.blind, va_recv hK hP (ci := 4) (q0 := 0) rfl rfl, fun U hU hW => ⟨rfl, hg U hU hW⟩⟩ rfl rfl hl.1 rfl (lv_room ((by exact Nat.le_of_ble_eq_true rfl))) dL_law_1198 ⟨(by show kc + 0 ≤ 601024; omega), (by show ks + 0 ≤ 7293034; omega)⟩) (fun r178 u H locs hw hP hD hS => ?_)
  subst hw
  refine lv_aload_n hx hb dL_law_1201 rfl (lv_at hl 2 rfl) ?_
  refine lv_aload_n hx hb dL_law_1202 rfl (lv_at hl 4 rfl) ?_
  refine lv_iload hx hb dL_law_1203 (lv_at hl 0 rfl) ?_
  refine lv_iconst (v := 1) hx hb dL_law_1205 (by decide) ?_
  refine lv_iadd hx hb dL_law_1206 ?_
  have h179 := hp.1
  replace hp := hp.2
  refine va_sld hx hb hX hbl hbA hS h179 dL_law_1207 ?_
  have hq180 := hp.1
  replace hp := hp.2
  refine k_calli (S := Int32) (wc := (W_X5 cI q8 n2_0 n2_1 n2_2 n2_3 n2_4 n2_5 n2_6 n2_7 n2_8 n2_9 n2_10 mr_23 mc_23 me_23 mw_23 mh_23 mn_23 mu_23 ms_23 mt_23 md_23 mz_23 mi_23 mk_23 mo_23 mj_23 ml_23)) (wr := (W_O cI cJ q0 n1_0 n1_1 n1_2 n1_3 n1_4 n1_5 n1_6 n1_7 n1_8 n1_9 n1_10 n1_11 n1_12 n1_13 o0 xr_23 xt_23 gn_23 gu_23 gb_23 ga_23 lc_23 lk_23 ln_23 lt_23 ll_23 lr_23 tw_23 tn_23 tt_23 oo_23)) (w1 := fun u => (W_X5 cI q8 n2_0 n2_1 n2_2 n2_3 n2_4 n2_5 n2_6 n2_7 n2_8 n2_9 n2_10 mr_23 mc_23 me_23 mw_23 u mn_23 mu_23 ms_23 mt_23 md_23 mz_23 mi_23 mk_23 mo_23 mj_23 ml_23)) (fun u => (W_L cI cJ q0 n1_0 n1_1 n1_2 n1_3 n1_4 n1_5 n1_6 n1_7 n1_8 n1_9 n1_10 n1_11 n1_12 n1_13 q8 n2_0 n2_1 n2_2 n2_3 n2_4 n2_5 n2_6 n2_7 n2_8 n2_9 n2_10 o0 xr_23 xt_23 gn_23 gu_23 gb_23 ga_23 lc_23 lk_23 ln_23 lt_23 ll_23 lr_23 tw_23 tn_23 tt_23 mr_23 mc_23 me_23 mw_23 u mn_23 mu_23 ms_23 mt_23 md_23 mz_23 mi_23 mk_23 mo_23 mj_23 ml_23 oo_23)) hP (hK.sub [0] rfl) hD hN hS hA [15, 16, 17, 18, 19, 20, 21, 22, 23, 24, 25, 26] [0, 1, 2, 3, 4, 5, 6, 7, 8, 9, 10, 11, 12, 13, 14, 27] rfl rfl (by decide) (by decide) (by decide) [0, 1, 2, 3, 4, 5, 6, 7, 8, 9, 10, 11, 12, 13, 14, 16, 17, 18, 19, 20, 21, 22, 23, 24, 25, 26, 27, 15] (by decide) (fun _ => rfl) (fun hg => va_runV (As := [.int (xs ((v23_4 + 1)).toNatClampNeg)]) (rest := [.int (f_X4_ticketState tw_23 tn_23 tt_23 (xs ((v23_4 + 1)).toNatClampNeg))]) ⟨hx, hb, hml, hown, hts⟩ (c_X5_ticketState l D cI q8 n2_0 n2_1 n2_2 n2_3 n2_4 n2_5 n2_6 n2_7 n2_8 n2_9 n2_10 mr_23 mc_23 me_23 mw_23 mh_23 mn_23 mu_23 ms_23 mt_23 md_23 mz_23 mi_23 mk_23 mo_23 mj_23 ml_23 _ (xs ((v23_4 + 1)).toNatClampNeg) hq180) (cwV 1 hts gL_law_X5_ticketState rfl rfl rfl (by decide +kernel) ⟨Nat.le_of_ble_eq_true rfl, Nat.le_of_ble_eq_true rfl⟩) ⟨PW.blind, va_recv hK hP (ci := 5) (q0 := 15) rfl rfl, fun U hU hW => ⟨rfl, hg U hU hW⟩⟩ rfl rfl hl.1 rfl (lv_room ((by exact Nat.le_of_ble_eq_true rfl))) dL_law_1208 ⟨(by show kc + 0 ≤ 601024; omega), (by show ks + 0 ≤ 7293034; omega)⟩) (fun r180 u H locs hw hP hD hS => ?_)
  obtain ⟨u180_0, rfl⟩ : ∃ z, z = u := ⟨_, rfl⟩
  rw [hw] at he
  try dsimp only at he
  replace hp := hp r180 u180_0 hw
  have hP : va_P D vwCl (W_L cI cJ q0 n1_0 n1_1 n1_2 n1_3 n1_4 n1_5 n1_6 n1_7 n1_8 n1_9 n1_10 n1_11 n1_12 n1_13 q8 n2_0 n2_1 n2_2 n2_3 n2_4 n2_5 n2_6 n2_7 n2_8 n2_9 n2_10 o0 xr_23 xt_23 gn_23 gu_23 gb_23 ga_23 lc_23 lk_23 ln_23 lt_23 ll_23 lr_23 tw_23 tn_23 tt_23 mr_23 mc_23 me_23 mw_23 u180_0 mn_23 mu_23 ms_23 mt_23 md_23 mz_23 mi_23 mk_23 mo_23 mj_23 ml_23 oo_23) H := hP
  have hD : va_D A (W_L cI cJ q0 n1_0 n1_1 n1_2 n1_3 n1_4 n1_5 n1_6 n1_7 n1_8 n1_9 n1_10 n1_11 n1_12 n1_13 q8 n2_0 n2_1 n2_2 n2_3 n2_4 n2_5 n2_6 n2_7 n2_8 n2_9 n2_10 o0 xr_23 xt_23 gn_23 gu_23 gb_23 ga_23 lc_23 lk_23 ln_23 lt_23 ll_23 lr_23 tw_23 tn_23 tt_23 mr_23 mc_23 me_23 mw_23 u180_0 mn_23 mu_23 ms_23 mt_23 md_23 mz_23 mi_23 mk_23 mo_23 mj_23 ml_23 oo_23) := hD
  refine lv_icmp_eq (tgt := 1579) hx hb dL_law_1211 (by decide) (fun c181 => ?_) (fun c181 => ?_)
  · replace hp := hp.1 c181
    replace he := he.trans (if_pos c181)
    refine lv_iinc (v := (v23_4 + 3)) (lv' := [(4, .int (v23_4 + 3)), (3, .ref o0), (2, .ref q8), (1, .ref q0), (0, .ref b0)]) hx hb dL_law_1579 hl (k := 0) rfl rfl (by decide) rfl (fun ls hl => ?_)
    refine lv_goto (tgt := 23) hx hb dL_law_1582 (by decide) ?_
    refine W.widen (k := kc + 3) (n := ks + 18) (by omega) (by omega) ?_
    exact ih _ _ _ _ _ _ _ _ _ _ _ _ _ _ _ _ _ _ _ _ _ _ _ _ _ _ _ _ _ _ _ _ _ (kc + 3) (ks + 18) (by omega) (by omega) hp he _ _ hP hD hS _ (lv_sub hl [0, 1, 2, 3, 4] rfl)
  · replace hp := hp.2 c181
    replace he := he.trans (if_neg c181)
    refine lv_iconst (v := 0) hx hb dL_law_1214 (by decide) ?_
    exact absurd he (by decide)
set_option maxHeartbeats 8000000 in
set_option maxRecDepth 100000 in
theorem law_c25 {p : Program} {l : Launch} {e : Env} {s : State} {m : MethodId} {below : List Frame} {meth : Method} {c : Code} {D : va_G} {cI cJ : ClassId} {b0 L : Nat} {xs : Nat → Int32} {A : Nat → Prop} {q0 n1_0 n1_1 n1_2 n1_3 n1_4 n1_5 n1_6 n1_7 n1_8 n1_9 n1_10 n1_11 n1_12 n1_13 q8 n2_0 n2_1 n2_2 n2_3 n2_4 n2_5 n2_6 n2_7 n2_8 n2_9 n2_10 o0 : Nat} (hx : p.tables.exec = Jvm.exec) (hb : c.code = code) (hr : meth.sig.returnType = ret) (hml : c.maxLocals = 7) (hown : s.vm.findClass RL = some m.cls) (hts : ∀ w ∈ wsL_law, w.before #[Value.ref b0] s = true) (hX : va_X b0 L xs s s.heap) (hbl : b0 < s.heap.size) (hlocks : meth.locks = false) (hbA : ¬ A b0) (hA : ∀ q : Nat, s.heap.size ≤ q → A q) (hAle : ∀ q : Nat, A q → s.heap.size ≤ q) (hN : NB s) (hXB : XB A s s.heap) (hst : l.stackTraces = false) (hK : va_K D vwCl [(cI, .int), (cJ, .long)] s) {n : Nat} (ih : ∀ (v23_4 : Int32) (xr_23 : Int32) (xt_23 : Int32) (gn_23 : AA) (gu_23 : AA) (gb_23 : AA) (ga_23 : AA) (lc_23 : Int32) (lk_23 : AA) (ln_23 : AA) (lt_23 : AA) (ll_23 : AA) (lr_23 : AA) (tw_23 : Int32) (tn_23 : AA) (tt_23 : AA) (mr_23 : Int32) (mc_23 : Int32) (me_23 : Int32) (mw_23 : Int32) (mh_23 : Int32) (mn_23 : AA) (mu_23 : AA) (ms_23 : AA) (mt_23 : AA) (md_23 : AA) (mz_23 : AA) (mi_23 : AA) (mk_23 : AA) (mo_23 : AA) (mj_23 : AA) (ml_23 : AA) (oo_23 : LA) (kc ks : Nat), kc + n * 3 + 64 ≤ 601024 → ks + n * 18 + 64 ≤ 7293034 → p_L_law_L23 xs L n v23_4 xr_23 xt_23 gn_23 gu_23 gb_23 ga_23 lc_23 lk_23 ln_23 lt_23 ll_23 lr_23 tw_23 tn_23 tt_23 mr_23 mc_23 me_23 mw_23 mh_23 mn_23 mu_23 ms_23 mt_23 md_23 mz_23 mi_23 mk_23 mo_23 mj_23 ml_23 oo_23 → (1 : Int32) = f_L_law_L23 xs L n v23_4 xr_23 xt_23 gn_23 gu_23 gb_23 ga_23 lc_23 lk_23 ln_23 lt_23 ll_23 lr_23 tw_23 tn_23 tt_23 mr_23 mc_23 me_23 mw_23 mh_23 mn_23 mu_23 ms_23 mt_23 md_23 mz_23 mi_23 mk_23 mo_23 mj_23 ml_23 oo_23 → ∀ (H : Heap) (locs : List Loc), va_P D vwCl (W_L cI cJ q0 n1_0 n1_1 n1_2 n1_3 n1_4 n1_5 n1_6 n1_7 n1_8 n1_9 n1_10 n1_11 n1_12 n1_13 q8 n2_0 n2_1 n2_2 n2_3 n2_4 n2_5 n2_6 n2_7 n2_8 n2_9 n2_10 o0 xr_23 xt_23 gn_23 gu_23 gb_23 ga_23 lc_23 lk_23 ln_23 lt_23 ll_23 lr_23 tw_23 tn_23 tt_23 mr_23 mc_23 me_23 mw_23 mh_23 mn_23 mu_23 ms_23 mt_23 md_23 mz_23 mi_23 mk_23 mo_23 mj_23 ml_23 oo_23) H → va_D A (W_L cI cJ q0 n1_0 n1_1 n1_2 n1_3 n1_4 n1_5 n1_6 n1_7 n1_8 n1_9 n1_10 n1_11 n1_12 n1_13 q8 n2_0 n2_1 n2_2 n2_3 n2_4 n2_5 n2_6 n2_7 n2_8 n2_9 n2_10 o0 xr_23 xt_23 gn_23 gu_23 gb_23 ga_23 lc_23 lk_23 ln_23 lt_23 ll_23 lr_23 tw_23 tn_23 tt_23 mr_23 mc_23 me_23 mw_23 mh_23 mn_23 mu_23 ms_23 mt_23 md_23 mz_23 mi_23 mk_23 mo_23 mj_23 ml_23 oo_23) → va_S A s.heap H locs → ∀ ls : Array Slot, lv_has ls 7 [(4, .int v23_4), (3, .ref o0), (2, .ref q8), (1, .ref q0), (0, .ref b0)] → W p l e room_1 s m #[Value.ref b0] below meth c H locs kc ks (lw_Z below #[Value.ref b0] s) (F0 m 23 ls [])) (v23_4 : Int32) (xr_23 : Int32) (xt_23 : Int32) (gn_23 : AA) (gu_23 : AA) (gb_23 : AA) (ga_23 : AA) (lc_23 : Int32) (lk_23 : AA) (ln_23 : AA) (lt_23 : AA) (ll_23 : AA) (lr_23 : AA) (tw_23 : Int32) (tn_23 : AA) (tt_23 : AA) (mr_23 : Int32) (mc_23 : Int32) (me_23 : Int32) (mw_23 : Int32) (mh_23 : Int32) (mn_23 : AA) (mu_23 : AA) (ms_23 : AA) (mt_23 : AA) (md_23 : AA) (mz_23 : AA) (mi_23 : AA) (mk_23 : AA) (mo_23 : AA) (mj_23 : AA) (ml_23 : AA) (oo_23 : LA) (kc ks : Nat) (hkc : kc + (n + 1) * 3 + 64 ≤ 601024) (hks : ks + (n + 1) * 18 + 64 ≤ 7293034) (hp : p_L_c25 (p_L_law_L23 xs L n) xs L v23_4 xr_23 xt_23 gn_23 gu_23 gb_23 ga_23 lc_23 lk_23 ln_23 lt_23 ll_23 lr_23 tw_23 tn_23 tt_23 mr_23 mc_23 me_23 mw_23 mn_23 mu_23 ms_23 mt_23 md_23 mz_23 mi_23 mk_23 mo_23 mj_23 ml_23 oo_23) (he : (1 : Int32) = f_L_c25 (f_L_law_L23 xs L n) xs v23_4 xr_23 xt_23 gn_23 gu_23 gb_23 ga_23 lc_23 lk_23 ln_23 lt_23 ll_23 lr_23 tw_23 tn_23 tt_23 mr_23 mc_23 me_23 mw_23 mn_23 mu_23 ms_23 mt_23 md_23 mz_23 mi_23 mk_23 mo_23 mj_23 ml_23 oo_23) (H : Heap) (locs : List Loc) (hP : va_P D vwCl (W_L cI cJ q0 n1_0 n1_1 n1_2 n1_3 n1_4 n1_5 n1_6 n1_7 n1_8 n1_9 n1_10 n1_11 n1_12 n1_13 q8 n2_0 n2_1 n2_2 n2_3 n2_4 n2_5 n2_6 n2_7 n2_8 n2_9 n2_10 o0 xr_23 xt_23 gn_23 gu_23 gb_23 ga_23 lc_23 lk_23 ln_23 lt_23 ll_23 lr_23 tw_23 tn_23 tt_23 mr_23 mc_23 me_23 mw_23 mh_23 mn_23 mu_23 ms_23 mt_23 md_23 mz_23 mi_23 mk_23 mo_23 mj_23 ml_23 oo_23) H) (hD : va_D A (W_L cI cJ q0 n1_0 n1_1 n1_2 n1_3 n1_4 n1_5 n1_6 n1_7 n1_8 n1_9 n1_10 n1_11 n1_12 n1_13 q8 n2_0 n2_1 n2_2 n2_3 n2_4 n2_5 n2_6 n2_7 n2_8 n2_9 n2_10 o0 xr_23 xt_23 gn_23 gu_23 gb_23 ga_23 lc_23 lk_23 ln_23 lt_23 ll_23 lr_23 tw_23 tn_23 tt_23 mr_23 mc_23 me_23 mw_23 mh_23 mn_23 mu_23 ms_23 mt_23 md_23 mz_23 mi_23 mk_23 mo_23 mj_23 ml_23 oo_23)) (hS : va_S A s.heap H locs) (ls : Array Slot) (hl : lv_has ls 7 [(4, .int v23_4), (3, .ref o0), (2, .ref q8), (1, .ref q0), (0, .ref b0)]) : W p l e room_1 s m #[Value.ref b0] below meth c H locs kc ks (lw_Z below #[Value.ref b0] s) (F0 m 1398 ls []) := by
  replace he := he.trans (f_L_c25.eq_1 ..)
  replace hp := Eq.mp (p_L_c25.eq_1 ..) hp
  refine lv_aload_n hx hb dL_law_1398 rfl (lv_at hl 3 rfl) ?_
  refine lv_aload_n hx hb dL_law_1399 rfl (lv_at hl 4 rfl) ?_
  refine lv_iload hx hb dL_law_1400 (lv_at hl 0 rfl) ?_
  refine lv_iconst (v := 1) hx hb dL_law_1402 (by decide) ?_
  refine lv_iadd hx hb dL_law_1403 ?_
  have h215 := hp.1
  replace hp := hp.2
  refine va_sld hx hb hX hbl hbA hS h215 dL_law_1404 ?_
  refine lv_aload_n hx hb dL_law_1405 rfl (lv_at hl 1 rfl) ?_
  have hq216 := hp.1
  replace hp := hp.2
  refine k_ycalli (S := LA) (wc := (W_O cI cJ q0 n1_0 n1_1 n1_2 n1_3 n1_4 n1_5 n1_6 n1_7 n1_8 n1_9 n1_10 n1_11 n1_12 n1_13 o0 xr_23 xt_23 gn_23 gu_23 gb_23 ga_23 lc_23 lk_23 ln_23 lt_23 ll_23 lr_23 tw_23 tn_23 tt_23 oo_23)) (wr := (W_X5 cI q8 n2_0 n2_1 n2_2 n2_3 n2_4 n2_5 n2_6 n2_7 n2_8 n2_9 n2_10 mr_23 mc_23 me_23 mw_23 mh_23 mn_23 mu_23 ms_23 mt_23 md_23 mz_23 mi_23 mk_23 mo_23 mj_23 ml_23)) (w1 := fun u => (W_O cI cJ q0 n1_0 n1_1 n1_2 n1_3 n1_4 n1_5 n1_6 n1_7 n1_8 n1_9 n1_10 n1_11 n1_12 n1_13 o0 xr_23 xt_23 gn_23 gu_23 gb_23 ga_23 lc_23 lk_23 ln_23 lt_23 ll_23 lr_23 tw_23 tn_23 tt_23 u)) (fun u => (W_L cI cJ q0 n1_0 n1_1 n1_2 n1_3 n1_4 n1_5 n1_6 n1_7 n1_8 n1_9 n1_10 n1_11 n1_12 n1_13 q8 n2_0 n2_1 n2_2 n2_3 n2_4 n2_5 n2_6 n2_7 n2_8 n2_9 n2_10 o0 xr_23 xt_23 gn_23 gu_23 gb_23 ga_23 lc_23 lk_23 ln_23 lt_23 ll_23 lr_23 tw_23 tn_23 tt_23 mr_23 mc_23 me_23 mw_23 mh_23 mn_23 mu_23 ms_23 mt_23 md_23 mz_23 mi_23 mk_23 mo_23 mj_23 ml_23 u)) hP hK hD hN hXB hS hA [0, 1, 2, 3, 4, 5, 6, 7, 8, 9, 10, 11, 12, 13, 14, 27] [15, 16, 17, 18, 19, 20, 21, 22, 23, 24, 25, 26] rfl rfl (by decide) (by decide) (by decide) [12, 13, 14, 15, 16, 17, 18, 19, 20, 21, 22, 23, 24, 25, 26, 0, 1, 2, 3, 4, 5, 6, 7, 8, 9, 10, 11, 27] (by decide) (fun _ => rfl) (fun hg => vx_runSW (As := [.ref q0, .int (xs ((v23_4 + 1)).toNatClampNeg), .ref o0]) (rest := []) ⟨hx, hb, hml, hown, hts⟩ (c_L_causeByTrying l D cI cJ q0 n1_0 n1_1 n1_2 n1_3 n1_4 n1_5 n1_6 n1_7 n1_8 n1_9 n1_10 n1_11 n1_12 n1_13 o0 xr_23 xt_23 gn_23 gu_23 gb_23 ga_23 lc_23 lk_23 ln_23 lt_23 ll_23 lr_23 tw_23 tn_23 tt_23 oo_23 _ (xs ((v23_4 + 1)).toNatClampNeg) hq216 hst) (vx_cwSW 3 hts gL_law_L_causeByTrying rfl rfl rfl (by decide +kernel) ⟨Nat.le_of_ble_eq_true rfl, Nat.le_of_ble_eq_true rfl⟩) ⟨PX.blind, fun U hU hW => ⟨rfl, hg U hU hW⟩⟩ rfl rfl hl.1 rfl (lv_room ((by exact Nat.le_of_ble_eq_true rfl))) dL_law_1406 ⟨(by show kc + 2 ≤ 601024; omega), (by show ks + 9 ≤ 7293034; omega)⟩) (fun r216 u H locs hw hP hD hS => ?_)
  obtain ⟨u216_0, rfl⟩ : ∃ z, z = u := ⟨_, rfl⟩
  rw [hw] at he
  try dsimp only at he
  replace hp := hp r216 u216_0 hw
  have hP : va_P D vwCl (W_L cI cJ q0 n1_0 n1_1 n1_2 n1_3 n1_4 n1_5 n1_6 n1_7 n1_8 n1_9 n1_10 n1_11 n1_12 n1_13 q8 n2_0 n2_1 n2_2 n2_3 n2_4 n2_5 n2_6 n2_7 n2_8 n2_9 n2_10 o0 xr_23 xt_23 gn_23 gu_23 gb_23 ga_23 lc_23 lk_23 ln_23 lt_23 ll_23 lr_23 tw_23 tn_23 tt_23 mr_23 mc_23 me_23 mw_23 mh_23 mn_23 mu_23 ms_23 mt_23 md_23 mz_23 mi_23 mk_23 mo_23 mj_23 ml_23 u216_0) H := hP
  have hD : va_D A (W_L cI cJ q0 n1_0 n1_1 n1_2 n1_3 n1_4 n1_5 n1_6 n1_7 n1_8 n1_9 n1_10 n1_11 n1_12 n1_13 q8 n2_0 n2_1 n2_2 n2_3 n2_4 n2_5 n2_6 n2_7 n2_8 n2_9 n2_10 o0 xr_23 xt_23 gn_23 gu_23 gb_23 ga_23 lc_23 lk_23 ln_23 lt_23 ll_23 lr_23 tw_23 tn_23 tt_23 mr_23 mc_23 me_23 mw_23 mh_23 mn_23 mu_23 ms_23 mt_23 md_23 mz_23 mi_23 mk_23 mo_23 mj_23 ml_23 u216_0) := hD
  refine lv_istore (lv' := [(5, .int r216), (4, .int v23_4), (3, .ref o0), (2, .ref q8), (1, .ref q0), (0, .ref b0)]) hx hb dL_law_1409 hl (by decide) rfl (fun ls hl => ?_)
  refine lv_aload_n hx hb dL_law_1411 rfl (lv_at hl 3 rfl) ?_
  refine lv_aload_n hx hb dL_law_1412 rfl (lv_at hl 5 rfl) ?_
  refine lv_iload hx hb dL_law_1413 (lv_at hl 1 rfl) ?_
  refine lv_iconst (v := 1) hx hb dL_law_1415 (by decide) ?_
  refine lv_iadd hx hb dL_law_1416 ?_
  have h217 := hp.1
  replace hp := hp.2
  refine va_sld hx hb hX hbl hbA hS h217 dL_law_1417 ?_
  have hq218 := hp.1
  replace hp := hp.2
  refine k_calli (S := Int32) (wc := (W_X5 cI q8 n2_0 n2_1 n2_2 n2_3 n2_4 n2_5 n2_6 n2_7 n2_8 n2_9 n2_10 mr_23 mc_23 me_23 mw_23 mh_23 mn_23 mu_23 ms_23 mt_23 md_23 mz_23 mi_23 mk_23 mo_23 mj_23 ml_23)) (wr := (W_O cI cJ q0 n1_0 n1_1 n1_2 n1_3 n1_4 n1_5 n1_6 n1_7 n1_8 n1_9 n1_10 n1_11 n1_12 n1_13 o0 xr_23 xt_23 gn_23 gu_23 gb_23 ga_23 lc_23 lk_23 ln_23 lt_23 ll_23 lr_23 tw_23 tn_23 tt_23 u216_0)) (w1 := fun u => (W_X5 cI q8 n2_0 n2_1 n2_2 n2_3 n2_4 n2_5 n2_6 n2_7 n2_8 n2_9 n2_10 mr_23 mc_23 me_23 mw_23 u mn_23 mu_23 ms_23 mt_23 md_23 mz_23 mi_23 mk_23 mo_23 mj_23 ml_23)) (fun u => (W_L cI cJ q0 n1_0 n1_1 n1_2 n1_3 n1_4 n1_5 n1_6 n1_7 n1_8 n1_9 n1_10 n1_11 n1_12 n1_13 q8 n2_0 n2_1 n2_2 n2_3 n2_4 n2_5 n2_6 n2_7 n2_8 n2_9 n2_10 o0 xr_23 xt_23 gn_23 gu_23 gb_23 ga_23 lc_23 lk_23 ln_23 lt_23 ll_23 lr_23 tw_23 tn_23 tt_23 mr_23 mc_23 me_23 mw_23 u mn_23 mu_23 ms_23 mt_23 md_23 mz_23 mi_23 mk_23 mo_23 mj_23 ml_23 u216_0)) hP (hK.sub [0] rfl) hD hN hS hA [15, 16, 17, 18, 19, 20, 21, 22, 23, 24, 25, 26] [0, 1, 2, 3, 4, 5, 6, 7, 8, 9, 10, 11, 12, 13, 14, 27] rfl rfl (by decide) (by decide) (by decide) [0, 1, 2, 3, 4, 5, 6, 7, 8, 9, 10, 11, 12, 13, 14, 16, 17, 18, 19, 20, 21, 22, 23, 24, 25, 26, 27, 15] (by decide) (fun _ => rfl) (fun hg => va_runV (As := [.int (xs ((v23_4 + 1)).toNatClampNeg)]) (rest := []) ⟨hx, hb, hml, hown, hts⟩ (c_X5_causeByTrying l D cI q8 n2_0 n2_1 n2_2 n2_3 n2_4 n2_5 n2_6 n2_7 n2_8 n2_9 n2_10 mr_23 mc_23 me_23 mw_23 mh_23 mn_23 mu_23 ms_23 mt_23 md_23 mz_23 mi_23 mk_23 mo_23 mj_23 ml_23 _ (xs ((v23_4 + 1)).toNatClampNeg) hq218) (cwV 1 hts gL_law_X5_causeByTrying rfl rfl rfl (by decide +kernel) ⟨Nat.le_of_ble_eq_true rfl, Nat.le_of_ble_eq_true rfl⟩) ⟨PW.blind, va_recv hK hP (ci := 5) (q0 := 15) rfl rfl, fun U hU hW => ⟨rfl, hg U hU hW⟩⟩ rfl rfl hl.1 rfl (lv_room ((by exact Nat.le_of_ble_eq_true rfl))) dL_law_1418 ⟨(by show (kc + 2) + 0 ≤ 601024; omega), (by show (ks + 9) + 0 ≤ 7293034; omega)⟩) (fun r218 u H locs hw hP hD hS => ?_)
  obtain ⟨u218_0, rfl⟩ : ∃ z, z = u := ⟨_, rfl⟩
  rw [hw] at he
  try dsimp only at he
  replace hp := hp r218 u218_0 hw
  have hP : va_P D vwCl (W_L cI cJ q0 n1_0 n1_1 n1_2 n1_3 n1_4 n1_5 n1_6 n1_7 n1_8 n1_9 n1_10 n1_11 n1_12 n1_13 q8 n2_0 n2_1 n2_2 n2_3 n2_4 n2_5 n2_6 n2_7 n2_8 n2_9 n2_10 o0 xr_23 xt_23 gn_23 gu_23 gb_23 ga_23 lc_23 lk_23 ln_23 lt_23 ll_23 lr_23 tw_23 tn_23 tt_23 mr_23 mc_23 me_23 mw_23 u218_0 mn_23 mu_23 ms_23 mt_23 md_23 mz_23 mi_23 mk_23 mo_23 mj_23 ml_23 u216_0) H := hP
  have hD : va_D A (W_L cI cJ q0 n1_0 n1_1 n1_2 n1_3 n1_4 n1_5 n1_6 n1_7 n1_8 n1_9 n1_10 n1_11 n1_12 n1_13 q8 n2_0 n2_1 n2_2 n2_3 n2_4 n2_5 n2_6 n2_7 n2_8 n2_9 n2_10 o0 xr_23 xt_23 gn_23 gu_23 gb_23 ga_23 lc_23 lk_23 ln_23 lt_23 ll_23 lr_23 tw_23 tn_23 tt_23 mr_23 mc_23 me_23 mw_23 u218_0 mn_23 mu_23 ms_23 mt_23 md_23 mz_23 mi_23 mk_23 mo_23 mj_23 ml_23 u216_0) := hD
  refine lv_istore (lv' := [(6, .int r218), (5, .int r216), (4, .int v23_4), (3, .ref o0), (2, .ref q8), (1, .ref q0), (0, .ref b0)]) hx hb dL_law_1421 hl (by decide) rfl (fun ls hl => ?_)
  refine lv_aload_n hx hb dL_law_1423 rfl (lv_at hl 4 rfl) ?_
  refine k_calli (S := Unit) (wc := (W_X5 cI q8 n2_0 n2_1 n2_2 n2_3 n2_4 n2_5 n2_6 n2_7 n2_8 n2_9 n2_10 mr_23 mc_23 me_23 mw_23 u218_0 mn_23 mu_23 ms_23 mt_23 md_23 mz_23 mi_23 mk_23 mo_23 mj_23 ml_23)) (wr := (W_O cI cJ q0 n1_0 n1_1 n1_2 n1_3 n1_4 n1_5 n1_6 n1_7 n1_8 n1_9 n1_10 n1_11 n1_12 n1_13 o0 xr_23 xt_23 gn_23 gu_23 gb_23 ga_23 lc_23 lk_23 ln_23 lt_23 ll_23 lr_23 tw_23 tn_23 tt_23 u216_0)) (w1 := fun u => (W_X5 cI q8 n2_0 n2_1 n2_2 n2_3 n2_4 n2_5 n2_6 n2_7 n2_8 n2_9 n2_10 mr_23 mc_23 me_23 mw_23 u218_0 mn_23 mu_23 ms_23 mt_23 md_23 mz_23 mi_23 mk_23 mo_23 mj_23 ml_23)) (fun u => (W_L cI cJ q0 n1_0 n1_1 n1_2 n1_3 n1_4 n1_5 n1_6 n1_7 n1_8 n1_9 n1_10 n1_11 n1_12 n1_13 q8 n2_0 n2_1 n2_2 n2_3 n2_4 n2_5 n2_6 n2_7 n2_8 n2_9 n2_10 o0 xr_23 xt_23 gn_23 gu_23 gb_23 ga_23 lc_23 lk_23 ln_23 lt_23 ll_23 lr_23 tw_23 tn_23 tt_23 mr_23 mc_23 me_23 mw_23 u218_0 mn_23 mu_23 ms_23 mt_23 md_23 mz_23 mi_23 mk_23 mo_23 mj_23 ml_23 u216_0)) hP (hK.sub [0] rfl) hD hN hS hA [15, 16, 17, 18, 19, 20, 21, 22, 23, 24, 25, 26] [0, 1, 2, 3, 4, 5, 6, 7, 8, 9, 10, 11, 12, 13, 14, 27] rfl rfl (by decide) (by decide) (by decide) [0, 1, 2, 3, 4, 5, 6, 7, 8, 9, 10, 11, 12, 13, 14, 16, 17, 18, 19, 20, 21, 22, 23, 24, 25, 26, 27, 15] (by decide) (fun _ => rfl) (fun hg => va_runV (As := []) (rest := []) ⟨hx, hb, hml, hown, hts⟩ (c_X5_thrown l D cI q8 n2_0 n2_1 n2_2 n2_3 n2_4 n2_5 n2_6 n2_7 n2_8 n2_9 n2_10 mr_23 mc_23 me_23 mw_23 u218_0 mn_23 mu_23 ms_23 mt_23 md_23 mz_23 mi_23 mk_23 mo_23 mj_23 ml_23 _ ) (cwV 0 hts gL_law_X5_thrown rfl rfl rfl (by decide +kernel) ⟨Nat.le_of_ble_eq_true rfl, Nat.le_of_ble_eq_true rfl⟩) ⟨PW.blind, va_recv hK hP (ci := 5) (q0 := 15) rfl rfl, fun U hU hW => ⟨rfl, hg U hU hW⟩⟩ rfl rfl hl.1 rfl (lv_room ((by exact Nat.le_of_ble_eq_true rfl))) dL_law_1424 ⟨(by show (kc + 2) + 0 ≤ 601024; omega), (by show (ks + 9) + 0 ≤ 7293034; omega)⟩) (fun r219 u H locs hw hP hD hS => ?_)
  subst hw
  refine lv_iload hx hb dL_law_1427 (lv_at hl 1 rfl) ?_
  refine lv_icmp_eq (tgt := 1434) hx hb dL_law_1429 (by decide) (fun c220 => ?_) (fun c220 => ?_)
  · replace hp := hp.1 c220
    replace he := he.trans (if_pos c220)
    refine lv_iload hx hb dL_law_1434 (lv_at hl 1 rfl) ?_
    refine lv_if_ne (tgt := 1451) hx hb dL_law_1436 (by decide) (fun c221 => ?_) (fun c221 => ?_)
    · replace hp := hp.2 c221
      replace he := he.trans (if_neg c221)
      refine lv_goto (tgt := 1579) hx hb dL_law_1451 (by decide) ?_
      refine lv_iinc (v := (v23_4 + 3)) (lv' := [(4, .int (v23_4 + 3)), (6, .int r218), (5, .int r216), (3, .ref o0), (2, .ref q8), (1, .ref q0), (0, .ref b0)]) hx hb dL_law_1579 hl (k := 2) rfl rfl (by decide) rfl (fun ls hl => ?_)
      refine lv_goto (tgt := 23) hx hb dL_law_1582 (by decide) ?_
      refine W.widen (k := kc + 3) (n := ks + 18) (by omega) (by omega) ?_
      exact ih _ _ _ _ _ _ _ _ _ _ _ _ _ _ _ _ _ _ _ _ _ _ _ _ _ _ _ _ _ _ _ _ _ (kc + 3) (ks + 18) (by omega) (by omega) hp he _ _ hP hD hS _ (lv_sub hl [0, 3, 4, 5, 6] rfl)
    · replace hp := hp.1 c221
      replace he := he.trans (if_pos c221)
      refine lv_aload_n hx hb dL_law_1439 rfl (lv_at hl 3 rfl) ?_
      refine lv_iconst (v := 0) hx hb dL_law_1440 (by decide) ?_
      refine va_lald hx hb hK hP 27 1 rfl rfl (by unfold vp_in; decide) dL_law_1441 ?_
      refine lv_iload hx hb dL_law_1442 (lv_at hl 0 rfl) ?_
      refine lv_i2l (v := (r218).toInt64) hx hb dL_law_1444 rfl ?_
      refine W.lcmp hx hb dL_law_1445 ?_
      refine lv_if_eq (tgt := 1451) hx hb dL_law_1446 (by decide) (fun c223 => ?_) (fun c223 => ?_)
      · replace hp := hp.1 c223
        replace he := he.trans (if_pos c223)
        refine lv_goto (tgt := 1579) hx hb dL_law_1451 (by decide) ?_
        refine lv_iinc (v := (v23_4 + 3)) (lv' := [(4, .int (v23_4 + 3)), (6, .int r218), (5, .int r216), (3, .ref o0), (2, .ref q8), (1, .ref q0), (0, .ref b0)]) hx hb dL_law_1579 hl (k := 2) rfl rfl (by decide) rfl (fun ls hl => ?_)
        refine lv_goto (tgt := 23) hx hb dL_law_1582 (by decide) ?_
        refine W.widen (k := kc + 3) (n := ks + 18) (by omega) (by omega) ?_
        exact ih _ _ _ _ _ _ _ _ _ _ _ _ _ _ _ _ _ _ _ _ _ _ _ _ _ _ _ _ _ _ _ _ _ (kc + 3) (ks + 18) (by omega) (by omega) hp he _ _ hP hD hS _ (lv_sub hl [0, 3, 4, 5, 6] rfl)
      · replace hp := hp.2 c223
        replace he := he.trans (if_neg c223)
        refine lv_iconst (v := 0) hx hb dL_law_1449 (by decide) ?_
        exact absurd he (by decide)
  · replace hp := hp.2 c220
    replace he := he.trans (if_neg c220)
    refine lv_iconst (v := 0) hx hb dL_law_1432 (by decide) ?_
    exact absurd he (by decide)
