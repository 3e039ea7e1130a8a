abbrev rm_X5_raise : Room := { frames := 2, cells := 0, slots := 0, locals := 44 }
abbrev Q_X5_raise (D : va_G) (cI : ClassId) (m0 m1 m2 m3 m4 m5 m6 m7 m8 m9 m10 m11 : Nat) (mr : Int32) (mc : Int32) (me : Int32) (mw : Int32) (mh : Int32) (mn : AA) (mu : AA) (ms : AA) (mt : AA) (md : AA) (mz : AA) (mi : AA) (mk : AA) (mo : AA) (mj : AA) (ml : AA) (a1 : Int32) (A : Nat → Prop) : Array Value → State → Outcome → State → Prop := va_Qi (S := Int32 × Int32 × Int32 × Int32 × AA × AA × AA × AA × AA × AA × AA × AA × AA) (fun r u => f_X5_raise mr mc me mw mu ms mt md mz mi mk mo mj ml a1 = (r, u)) (fun u t => QW D [(cI, .int)] A (W_X5 cI m0 m1 m2 m3 m4 m5 m6 m7 m8 m9 m10 m11 u.1 u.2.1 u.2.2.1 mw u.2.2.2.1 mn mu u.2.2.2.2.1 u.2.2.2.2.2.1 u.2.2.2.2.2.2.1 u.2.2.2.2.2.2.2.1 u.2.2.2.2.2.2.2.2.1 u.2.2.2.2.2.2.2.2.2.1 u.2.2.2.2.2.2.2.2.2.2.1 u.2.2.2.2.2.2.2.2.2.2.2.1 u.2.2.2.2.2.2.2.2.2.2.2.2) t) A
set_option maxHeartbeats 4000000 in
set_option maxRecDepth 100000 in
theorem c_X5_raise_k24 {l : Launch}  {D : va_G} {cI : ClassId} {m0 m1 m2 m3 m4 m5 m6 m7 m8 m9 m10 m11 : Nat} {mr : Int32} {mc : Int32} {me : Int32} {mw : Int32} {mh : Int32} {mn : AA} {mu : AA} {ms : AA} {mt : AA} {md : AA} {mz : AA} {mi : AA} {mk : AA} {mo : AA} {mj : AA} {ml : AA} {a1 : Int32} {p : Program} {e : Env} {s : State} {m : MethodId} {below : List Frame} {meth : Method} {c : Code} {s₁ : State} (B : BodyLoose p l yX5_raise (headSpec wsX5_raise rm_X5_raise) cX5_raise 6 (some .int) e s m ([.ref m0, .int a1] : List Value).toArray below meth c s₁) (hml : c.maxLocals = 6) (hK : va_K D vwCl [(cI, .int)] s) (hN : NB s) {A : Nat → Prop} (hA : ∀ q : Nat, s.heap.size ≤ q → A q) (u7_0 : Int32) (j20_4 : Int32) (j20_mc : Int32) (r24_md_158 : AA) (r24_mz_158 : AA) (r24_mi_158 : AA) (hp : (vp_in j20_4 302 ∧ (vp_in j20_4 302 ∧ (p_X5_raise_L254 a1 j20_4 r24_md_158 15 (0 : Int32) mt ∧ ∀ (r38_v254_5 : Int32) (r38_mt_254 : AA), f_X5_raise_L254 a1 j20_4 r24_md_158 15 (0 : Int32) mt = (r38_v254_5, r38_mt_254) → (vp_in a1 14 ∧ (p_X5_notes me ∧ ∀ (u47_0 : Int32) (u47_1 : AA) (u47_2 : AA) (u47_3 : AA) (u47_4 : AA), f_X5_notes me mw mk mo mj ml (0 : Int32) a1 ((-1) : Int32) = (u47_0, u47_1, u47_2, u47_3, u47_4) → True)))))) (he : f_X5_raise mr mc me mw mu ms mt md mz mi mk mo mj ml a1 = (match f_X5_raise_L254 a1 j20_4 r24_md_158 15 (0 : Int32) mt with | (r38_v254_5, r38_mt_254) => (match f_X5_notes me mw mk mo mj ml (0 : Int32) a1 ((-1) : Int32) with | (u47_0, u47_1, u47_2, u47_3, u47_4) => (j20_4, (mr ||| (1 <<< (a1 &&& 31))), j20_mc, u47_0, u7_0, (upd ms (a1).toNatClampNeg mw), r38_mt_254, (upd r24_md_158 (j20_4).toNatClampNeg ((r24_md_158 (j20_4).toNatClampNeg) ||| (1 <<< (a1 &&& 31)))), r24_mz_158, r24_mi_158, u47_1, u47_2, u47_3, u47_4)))) : ∀ (H : Heap) (locs : List Loc), va_P D vwCl (W_X5 cI m0 m1 m2 m3 m4 m5 m6 m7 m8 m9 m10 m11 mr j20_mc me mw u7_0 mn mu ms mt r24_md_158 r24_mz_158 r24_mi_158 mk mo mj ml) H → va_D A (W_X5 cI m0 m1 m2 m3 m4 m5 m6 m7 m8 m9 m10 m11 mr j20_mc me mw u7_0 mn mu ms mt r24_md_158 r24_mz_158 r24_mi_158 mk mo mj ml) → va_S A s.heap H locs → ∀ ls : Array Slot, lv_has ls 6 [(4, .int j20_4), (0, .ref m0), (1, .int a1)] → W p l e (headSpec wsX5_raise rm_X5_raise).room s m ([.ref m0, .int a1] : List Value).toArray below meth c H locs 0 0 (MQ below (Q_X5_raise D cI m0 m1 m2 m3 m4 m5 m6 m7 m8 m9 m10 m11 mr mc me mw mh mn mu ms mt md mz mi mk mo mj ml a1 A) ([.ref m0, .int a1] : List Value).toArray s 0 0 A) (F0 m 238 ls []) := by
  have hx := B.exec
  have hb := B.bytes
  have hr := B.returns
  have hts := atoms_spec (ws := wsX5_raise) B.pre
  have hown : s.vm.findClass RX5 = some m.cls := findClass_of_methodNamed B.named
  have hlocks := B.notSynchronized
  intro H locs hP hD hS ls hl
  refine lv_aload_n hx hb dX5_raise_238 rfl (lv_at hl 1 rfl) ?_
  refine va_get (D := D) (ci := 5) (v := .ref m5) (C := RX5) (T := TX5) (N := 16) hx hb hts (by decide +kernel) hown hK hP 0 rfl rfl 5 (by decide) (hts (.fieldLink RX5 22 "AlarmgroveModel" "nodes" "[I") (by decide +kernel)) (fun _ h9 => h9) rfl dX5_raise_239 ?_
  refine lv_iload hx hb dX5_raise_242 (lv_at hl 0 rfl) ?_
  refine lv_dup2_11 hx hb dX5_raise_244 rfl rfl ?_
  have h36 := hp.1
  replace hp := hp.2
  refine va_iald hx hb hK hP 5 0 rfl rfl h36 dX5_raise_245 ?_
  refine lv_iconst (v := 1) hx hb dX5_raise_246 (by decide) ?_
  refine lv_iload_n hx hb dX5_raise_247 rfl (lv_at hl 2 rfl) ?_
  refine lv_ishl hx hb dX5_raise_248 ?_
  refine lv_ior hx hb dX5_raise_249 ?_
  have h37 := hp.1
  replace hp := hp.2
  refine va_iast hx hb hK hP hD hS 5 0 rfl rfl h37 dX5_raise_250 (fun H locs hP hD hS => ?_)
  have hP : va_P D vwCl (W_X5 cI m0 m1 m2 m3 m4 m5 m6 m7 m8 m9 m10 m11 mr j20_mc me mw u7_0 mn mu ms mt (upd r24_md_158 (j20_4).toNatClampNeg ((r24_md_158 (j20_4).toNatClampNeg) ||| (1 <<< (a1 &&& 31)))) r24_mz_158 r24_mi_158 mk mo mj ml) H := hP
  have hD : va_D A (W_X5 cI m0 m1 m2 m3 m4 m5 m6 m7 m8 m9 m10 m11 mr j20_mc me mw u7_0 mn mu ms mt (upd r24_md_158 (j20_4).toNatClampNeg ((r24_md_158 (j20_4).toNatClampNeg) ||| (1 <<< (a1 &&& 31)))) r24_mz_158 r24_mi_158 mk mo mj ml) := hD
  refine lv_iconst (v := 0) hx hb dX5_raise_251 (by decide) ?_
  refine lv_istore (lv' := [(5, .int 0), (4, .int j20_4), (0, .ref m0), (1, .int a1)]) hx hb dX5_raise_252 hl (by decide) rfl (fun ls hl => ?_)
  obtain ⟨⟨r38_v254_5, r38_mt_254⟩, hL38⟩ : ∃ z, z = f_X5_raise_L254 a1 j20_4 r24_md_158 15 (0 : Int32) mt := ⟨_, rfl⟩
  rw [← hL38] at he
  replace he : f_X5_raise mr mc me mw mu ms mt md mz mi mk mo mj ml a1 = (match f_X5_notes me mw mk mo mj ml (0 : Int32) a1 ((-1) : Int32) with | (u47_0, u47_1, u47_2, u47_3, u47_4) => (j20_4, (mr ||| (1 <<< (a1 &&& 31))), j20_mc, u47_0, u7_0, (upd ms (a1).toNatClampNeg mw), r38_mt_254, (upd r24_md_158 (j20_4).toNatClampNeg ((r24_md_158 (j20_4).toNatClampNeg) ||| (1 <<< (a1 &&& 31)))), r24_mz_158, r24_mi_158, u47_1, u47_2, u47_3, u47_4)) := he
  have hpL38 := hp.1
  replace hp := hp.2 _ _ hL38.symm
  have kont38 : ∀ (x38_v254_5 : Int32) (x38_mt_254 : AA), (r38_v254_5, r38_mt_254) = (x38_v254_5, x38_mt_254) → ∀ (H : Heap) (locs : List Loc), va_P D vwCl (W_X5 cI m0 m1 m2 m3 m4 m5 m6 m7 m8 m9 m10 m11 mr j20_mc me mw u7_0 mn mu ms x38_mt_254 (upd r24_md_158 (j20_4).toNatClampNeg ((r24_md_158 (j20_4).toNatClampNeg) ||| (1 <<< (a1 &&& 31)))) r24_mz_158 r24_mi_158 mk mo mj ml) H → va_D A (W_X5 cI m0 m1 m2 m3 m4 m5 m6 m7 m8 m9 m10 m11 mr j20_mc me mw u7_0 mn mu ms x38_mt_254 (upd r24_md_158 (j20_4).toNatClampNeg ((r24_md_158 (j20_4).toNatClampNeg) ||| (1 <<< (a1 &&& 31)))) r24_mz_158 r24_mi_158 mk mo mj ml) → va_S A s.heap H locs → ∀ ls : Array Slot, lv_has ls 6 [(4, .int j20_4), (0, .ref m0), (1, .int a1)] → W p l e (headSpec wsX5_raise rm_X5_raise).room s m ([.ref m0, .int a1] : List Value).toArray below meth c H locs 0 0 (MQ below (Q_X5_raise D cI m0 m1 m2 m3 m4 m5 m6 m7 m8 m9 m10 m11 mr mc me mw mh mn mu ms mt md mz mi mk mo mj ml a1 A) ([.ref m0, .int a1] : List Value).toArray s 0 0 A) (F0 m 301 ls []) := by
    intro x38_v254_5 x38_mt_254 hxe H locs hP hD hS ls hl
    simp only [Prod.mk.injEq] at hxe
    obtain ⟨rfl, rfl⟩ := hxe
    refine lv_aload_n hx hb dX5_raise_301 rfl (lv_at hl 1 rfl) ?_
    refine lv_dup hx hb dX5_raise_302 rfl ?_
    refine va_get (D := D) (ci := 5) (v := .int mr) (C := RX5) (T := TX5) (N := 16) hx hb hts (by decide +kernel) hown hK hP 0 rfl rfl 2 (by decide) (hts (.fieldLink RX5 68 "AlarmgroveModel" "raised" "I") (by decide +kernel)) (fun _ h9 => h9) rfl dX5_raise_303 ?_
    refine lv_iconst (v := 1) hx hb dX5_raise_306 (by decide) ?_
    refine lv_iload_n hx hb dX5_raise_307 rfl (lv_at hl 2 rfl) ?_
    refine lv_ishl hx hb dX5_raise_308 ?_
    refine lv_ior hx hb dX5_raise_309 ?_
    refine va_put (D := D) (ci := 5) (v := .int (mr ||| (1 <<< (a1 &&& 31)))) (ty := .int) (C := RX5) (T := TX5) (N := 16) hx hb hts (by decide +kernel) tyX5 tyX5_ok nmX5 hown hK hP hD hS 0 rfl rfl 2 (by decide) (hts (.fieldLink RX5 68 "AlarmgroveModel" "raised" "I") (by decide +kernel)) (fun _ h9 => h9) rfl (by decide +kernel) rfl rfl (Nat.le_of_ble_eq_true rfl) dX5_raise_310 (fun H locs hP hD hS => ?_)
    have hP : va_P D vwCl (W_X5 cI m0 m1 m2 m3 m4 m5 m6 m7 m8 m9 m10 m11 (mr ||| (1 <<< (a1 &&& 31))) j20_mc me mw u7_0 mn mu ms r38_mt_254 (upd r24_md_158 (j20_4).toNatClampNeg ((r24_md_158 (j20_4).toNatClampNeg) ||| (1 <<< (a1 &&& 31)))) r24_mz_158 r24_mi_158 mk mo mj ml) H := hP
    have hD : va_D A (W_X5 cI m0 m1 m2 m3 m4 m5 m6 m7 m8 m9 m10 m11 (mr ||| (1 <<< (a1 &&& 31))) j20_mc me mw u7_0 mn mu ms r38_mt_254 (upd r24_md_158 (j20_4).toNatClampNeg ((r24_md_158 (j20_4).toNatClampNeg) ||| (1 <<< (a1 &&& 31)))) r24_mz_158 r24_mi_158 mk mo mj ml) := hD
    refine lv_aload_n hx hb dX5_raise_313 rfl (lv_at hl 1 rfl) ?_
    refine va_get (D := D) (ci := 5) (v := .ref m3) (C := RX5) (T := TX5) (N := 16) hx hb hts (by decide +kernel) hown hK hP 0 rfl rfl 3 (by decide) (hts (.fieldLink RX5 16 "AlarmgroveModel" "since" "[I") (by decide +kernel)) (fun _ h9 => h9) rfl dX5_raise_314 ?_
    refine lv_iload_n hx hb dX5_raise_317 rfl (lv_at hl 2 rfl) ?_
    refine lv_aload_n hx hb dX5_raise_318 rfl (lv_at hl 1 rfl) ?_
    refine va_get (D := D) (ci := 5) (v := .int mw) (C := RX5) (T := TX5) (N := 16) hx hb hts (by decide +kernel) hown hK hP 0 rfl rfl 14 (by decide) (hts (.fieldLink RX5 62 "AlarmgroveModel" "now" "I") (by decide +kernel)) (fun _ h9 => h9) rfl dX5_raise_319 ?_
    have h46 := hp.1
    replace hp := hp.2
    refine va_iast hx hb hK hP hD hS 3 0 rfl rfl h46 dX5_raise_322 (fun H locs hP hD hS => ?_)
    have hP : va_P D vwCl (W_X5 cI m0 m1 m2 m3 m4 m5 m6 m7 m8 m9 m10 m11 (mr ||| (1 <<< (a1 &&& 31))) j20_mc me mw u7_0 mn mu (upd ms (a1).toNatClampNeg mw) r38_mt_254 (upd r24_md_158 (j20_4).toNatClampNeg ((r24_md_158 (j20_4).toNatClampNeg) ||| (1 <<< (a1 &&& 31)))) r24_mz_158 r24_mi_158 mk mo mj ml) H := hP
    have hD : va_D A (W_X5 cI m0 m1 m2 m3 m4 m5 m6 m7 m8 m9 m10 m11 (mr ||| (1 <<< (a1 &&& 31))) j20_mc me mw u7_0 mn mu (upd ms (a1).toNatClampNeg mw) r38_mt_254 (upd r24_md_158 (j20_4).toNatClampNeg ((r24_md_158 (j20_4).toNatClampNeg) ||| (1 <<< (a1 &&& 31)))) r24_mz_158 r24_mi_158 mk mo mj ml) := hD
    refine lv_aload_n hx hb dX5_raise_323 rfl (lv_at hl 1 rfl) ?_
    refine lv_iconst (v := 0) hx hb dX5_raise_324 (by decide) ?_
    refine lv_iload_n hx hb dX5_raise_325 rfl (lv_at hl 2 rfl) ?_
    refine lv_iconst (v := (-1)) hx hb dX5_raise_326 (by decide) ?_
    have hq47 := hp.1
    replace hp := hp.2
    refine k_callv (S := Int32 × AA × AA × AA × AA) (wc := (W_X5 cI m0 m1 m2 m3 m4 m5 m6 m7 m8 m9 m10 m11 (mr ||| (1 <<< (a1 &&& 31))) j20_mc me mw u7_0 mn mu (upd ms (a1).toNatClampNeg mw) r38_mt_254 (upd r24_md_158 (j20_4).toNatClampNeg ((r24_md_158 (j20_4).toNatClampNeg) ||| (1 <<< (a1 &&& 31)))) r24_mz_158 r24_mi_158 mk mo mj ml)) (wr := ([] : va_W)) (w1 := fun u => (W_X5 cI m0 m1 m2 m3 m4 m5 m6 m7 m8 m9 m10 m11 (mr ||| (1 <<< (a1 &&& 31))) j20_mc u.1 mw u7_0 mn mu (upd ms (a1).toNatClampNeg mw) r38_mt_254 (upd r24_md_158 (j20_4).toNatClampNeg ((r24_md_158 (j20_4).toNatClampNeg) ||| (1 <<< (a1 &&& 31)))) r24_mz_158 r24_mi_158 u.2.1 u.2.2.1 u.2.2.2.1 u.2.2.2.2)) (fun u => (W_X5 cI m0 m1 m2 m3 m4 m5 m6 m7 m8 m9 m10 m11 (mr ||| (1 <<< (a1 &&& 31))) j20_mc u.1 mw u7_0 mn mu (upd ms (a1).toNatClampNeg mw) r38_mt_254 (upd r24_md_158 (j20_4).toNatClampNeg ((r24_md_158 (j20_4).toNatClampNeg) ||| (1 <<< (a1 &&& 31)))) r24_mz_158 r24_mi_158 u.2.1 u.2.2.1 u.2.2.2.1 u.2.2.2.2)) hP hK hD hN hS hA [0, 1, 2, 3, 4, 5, 6, 7, 8, 9, 10, 11] [] rfl rfl (by decide) (by decide) (by decide) [0, 1, 2, 3, 4, 5, 6, 7, 8, 9, 10, 11] (by decide) (fun _ => rfl) (fun hg => va_runV (As := [.int 0, .int a1, .int (-1)]) (rest := []) ⟨hx, hb, hml, hown, hts⟩ (c_X5_notes l D cI m0 m1 m2 m3 m4 m5 m6 m7 m8 m9 m10 m11 (mr ||| (1 <<< (a1 &&& 31))) j20_mc me mw u7_0 mn mu (upd ms (a1).toNatClampNeg mw) r38_mt_254 (upd r24_md_158 (j20_4).toNatClampNeg ((r24_md_158 (j20_4).toNatClampNeg) ||| (1 <<< (a1 &&& 31)))) r24_mz_158 r24_mi_158 mk mo mj ml _ 0 a1 (-1) hq47) (cwV 3 hts gX5_raise_X5_notes rfl rfl rfl (by decide +kernel) ⟨Nat.le_of_ble_eq_true rfl, Nat.le_of_ble_eq_true rfl⟩) ⟨PW.blind, va_recv hK hP (ci := 5) (q0 := 0) rfl rfl, fun U hU hW => ⟨rfl, hg U hU hW⟩⟩ rfl rfl hl.1 rfl (lv_room (Nat.le_of_ble_eq_true rfl)) dX5_raise_327 ⟨Nat.le_of_ble_eq_true rfl, Nat.le_of_ble_eq_true rfl⟩) (fun u H locs hw hP hD hS => ?_)
    obtain ⟨u47_0, u47_1, u47_2, u47_3, u47_4⟩ := u
    rw [hw] at he
    replace he : f_X5_raise mr mc me mw mu ms mt md mz mi mk mo mj ml a1 = (j20_4, (mr ||| (1 <<< (a1 &&& 31))), j20_mc, u47_0, u7_0, (upd ms (a1).toNatClampNeg mw), r38_mt_254, (upd r24_md_158 (j20_4).toNatClampNeg ((r24_md_158 (j20_4).toNatClampNeg) ||| (1 <<< (a1 &&& 31)))), r24_mz_158, r24_mi_158, u47_1, u47_2, u47_3, u47_4) := he
    replace hp := hp u47_0 u47_1 u47_2 u47_3 u47_4 hw
    have hP : va_P D vwCl (W_X5 cI m0 m1 m2 m3 m4 m5 m6 m7 m8 m9 m10 m11 (mr ||| (1 <<< (a1 &&& 31))) j20_mc u47_0 mw u7_0 mn mu (upd ms (a1).toNatClampNeg mw) r38_mt_254 (upd r24_md_158 (j20_4).toNatClampNeg ((r24_md_158 (j20_4).toNatClampNeg) ||| (1 <<< (a1 &&& 31)))) r24_mz_158 r24_mi_158 u47_1 u47_2 u47_3 u47_4) H := hP
    have hD : va_D A (W_X5 cI m0 m1 m2 m3 m4 m5 m6 m7 m8 m9 m10 m11 (mr ||| (1 <<< (a1 &&& 31))) j20_mc u47_0 mw u7_0 mn mu (upd ms (a1).toNatClampNeg mw) r38_mt_254 (upd r24_md_158 (j20_4).toNatClampNeg ((r24_md_158 (j20_4).toNatClampNeg) ||| (1 <<< (a1 &&& 31)))) r24_mz_158 r24_mi_158 u47_1 u47_2 u47_3 u47_4) := hD
    refine lv_iload hx hb dX5_raise_330 (lv_at hl 0 rfl) ?_
    exact W.iret (v := j20_4) hx hb hr (fun t ht hW => ⟨⟨j20_4, ((mr ||| (1 <<< (a1 &&& 31))), j20_mc, u47_0, u7_0, (upd ms (a1).toNatClampNeg mw), r38_mt_254, (upd r24_md_158 (j20_4).toNatClampNeg ((r24_md_158 (j20_4).toNatClampNeg) ||| (1 <<< (a1 &&& 31)))), r24_mz_158, r24_mi_158, u47_1, u47_2, u47_3, u47_4), rfl, he, by rw [ht]; exact hP, va_K.moved hW.alike hK, hD⟩, hS.F ht⟩) hS.2.2 dX5_raise_332
  have loop38 : ∀ (n : Nat) (v254_5 : Int32) (mt_254 : AA), p_X5_raise_L254 a1 j20_4 r24_md_158 n v254_5 mt_254 → (r38_v254_5, r38_mt_254) = f_X5_raise_L254 a1 j20_4 r24_md_158 n v254_5 mt_254 → ∀ (H : Heap) (locs : List Loc), va_P D vwCl (W_X5 cI m0 m1 m2 m3 m4 m5 m6 m7 m8 m9 m10 m11 mr j20_mc me mw u7_0 mn mu ms mt_254 (upd r24_md_158 (j20_4).toNatClampNeg ((r24_md_158 (j20_4).toNatClampNeg) ||| (1 <<< (a1 &&& 31)))) r24_mz_158 r24_mi_158 mk mo mj ml) H → va_D A (W_X5 cI m0 m1 m2 m3 m4 m5 m6 m7 m8 m9 m10 m11 mr j20_mc me mw u7_0 mn mu ms mt_254 (upd r24_md_158 (j20_4).toNatClampNeg ((r24_md_158 (j20_4).toNatClampNeg) ||| (1 <<< (a1 &&& 31)))) r24_mz_158 r24_mi_158 mk mo mj ml) → va_S A s.heap H locs → ∀ ls : Array Slot, lv_has ls 6 [(5, .int v254_5), (4, .int j20_4), (0, .ref m0), (1, .int a1)] → W p l e (headSpec wsX5_raise rm_X5_raise).room s m ([.ref m0, .int a1] : List Value).toArray below meth c H locs 0 0 (MQ below (Q_X5_raise D cI m0 m1 m2 m3 m4 m5 m6 m7 m8 m9 m10 m11 mr mc me mw mh mn mu ms mt md mz mi mk mo mj ml a1 A) ([.ref m0, .int a1] : List Value).toArray s 0 0 A) (F0 m 254 ls []) := by
    intro n
    induction n with
    | zero => exact fun _ _ hp => hp.elim
    | succ n ih =>
      intro v254_5 mt_254 hp he H locs hP hD hS ls hl
      replace hp := Eq.mp (p_X5_raise_L254.eq_2 ..) hp
      replace he := he.trans (f_X5_raise_L254.eq_2 ..)
      refine lv_iload hx hb dX5_raise_254 (lv_at hl 0 rfl) ?_
      refine lv_bipush (v := 14) hx hb dX5_raise_256 (by decide) ?_
      refine lv_icmp_ge (tgt := 301) hx hb dX5_raise_258 (by decide) (fun c39 => ?_) (fun c39 => ?_)
      · replace hp := hp.1 c39
        replace he := he.trans (if_pos c39)
        exact kont38 _ _ he _ _ hP hD hS _ (lv_sub hl [1, 2, 3] rfl)
      · replace hp := hp.2 c39
        replace he := he.trans (if_neg c39)
        refine lv_aload_n hx hb dX5_raise_261 rfl (lv_at hl 2 rfl) ?_
        refine va_get (D := D) (ci := 5) (v := .ref m4) (C := RX5) (T := TX5) (N := 16) hx hb hts (by decide +kernel) hown hK hP 0 rfl rfl 4 (by decide) (hts (.fieldLink RX5 19 "AlarmgroveModel" "ticket" "[I") (by decide +kernel)) (fun _ h9 => h9) rfl dX5_raise_262 ?_
        refine lv_iload hx hb dX5_raise_265 (lv_at hl 0 rfl) ?_
        refine lv_aload_n hx hb dX5_raise_267 rfl (lv_at hl 2 rfl) ?_
        refine va_get (D := D) (ci := 5) (v := .ref m5) (C := RX5) (T := TX5) (N := 16) hx hb hts (by decide +kernel) hown hK hP 0 rfl rfl 5 (by decide) (hts (.fieldLink RX5 22 "AlarmgroveModel" "nodes" "[I") (by decide +kernel)) (fun _ h9 => h9) rfl dX5_raise_268 ?_
        refine lv_iload hx hb dX5_raise_271 (lv_at hl 1 rfl) ?_
        have h40 := hp.1
        replace hp := hp.2
        refine va_iald hx hb hK hP 5 0 rfl rfl h40 dX5_raise_273 ?_
        refine lv_iload hx hb dX5_raise_274 (lv_at hl 0 rfl) ?_
        refine k_calli (S := Unit) (wc := ([] : va_W)) (wr := (W_X5 cI m0 m1 m2 m3 m4 m5 m6 m7 m8 m9 m10 m11 mr j20_mc me mw u7_0 mn mu ms mt_254 (upd r24_md_158 (j20_4).toNatClampNeg ((r24_md_158 (j20_4).toNatClampNeg) ||| (1 <<< (a1 &&& 31)))) r24_mz_158 r24_mi_158 mk mo mj ml)) (w1 := fun u => ([] : va_W)) (fun u => (W_X5 cI m0 m1 m2 m3 m4 m5 m6 m7 m8 m9 m10 m11 mr j20_mc me mw u7_0 mn mu ms mt_254 (upd r24_md_158 (j20_4).toNatClampNeg ((r24_md_158 (j20_4).toNatClampNeg) ||| (1 <<< (a1 &&& 31)))) r24_mz_158 r24_mi_158 mk mo mj ml)) hP hK hD hN hS hA [] [0, 1, 2, 3, 4, 5, 6, 7, 8, 9, 10, 11] rfl rfl (by decide) (by decide) (by decide) [0, 1, 2, 3, 4, 5, 6, 7, 8, 9, 10, 11] (by decide) (fun _ => rfl) (fun hg => va_runS (As := [.int ((upd r24_md_158 (j20_4).toNatClampNeg ((r24_md_158 (j20_4).toNatClampNeg) ||| (1 <<< (a1 &&& 31)))) (j20_4).toNatClampNeg), .int v254_5]) (rest := [.int v254_5, .ref m4]) ⟨hx, hb, hml, hown, hts⟩ (c_X5_has l D cI _ ((upd r24_md_158 (j20_4).toNatClampNeg ((r24_md_158 (j20_4).toNatClampNeg) ||| (1 <<< (a1 &&& 31)))) (j20_4).toNatClampNeg) v254_5) (va_cwS 2 hts gX5_raise_X5_has rfl rfl rfl (by decide +kernel) ⟨Nat.le_of_ble_eq_true rfl, Nat.le_of_ble_eq_true rfl⟩) ⟨PW.blind, fun U hU hW => ⟨rfl, hg U hU hW⟩⟩ rfl rfl hl.1 rfl (lv_room (Nat.le_of_ble_eq_true rfl)) dX5_raise_276 ⟨Nat.le_of_ble_eq_true rfl, Nat.le_of_ble_eq_true rfl⟩) (fun r41 u H locs hw hP hD hS => ?_)
        obtain ⟨hw, hb41⟩ := hw
        subst hw
        obtain ⟨j42, hJ42⟩ : ∃ z : Int32, z = (if (f_X5_has ((upd r24_md_158 (j20_4).toNatClampNeg ((r24_md_158 (j20_4).toNatClampNeg) ||| (1 <<< (a1 &&& 31)))) (j20_4).toNatClampNeg) v254_5) = 0 then (mt_254 (v254_5).toNatClampNeg) else j20_4) := ⟨_, rfl⟩
        rw [← hJ42] at he
        try dsimp only at he
        have hpJ42 := hp.1
        replace hp := hp.2 _  hJ42.symm
        have kont42 : ∀ (H : Heap) (locs : List Loc), va_P D vwCl (W_X5 cI m0 m1 m2 m3 m4 m5 m6 m7 m8 m9 m10 m11 mr j20_mc me mw u7_0 mn mu ms mt_254 (upd r24_md_158 (j20_4).toNatClampNeg ((r24_md_158 (j20_4).toNatClampNeg) ||| (1 <<< (a1 &&& 31)))) r24_mz_158 r24_mi_158 mk mo mj ml) H → va_D A (W_X5 cI m0 m1 m2 m3 m4 m5 m6 m7 m8 m9 m10 m11 mr j20_mc me mw u7_0 mn mu ms mt_254 (upd r24_md_158 (j20_4).toNatClampNeg ((r24_md_158 (j20_4).toNatClampNeg) ||| (1 <<< (a1 &&& 31)))) r24_mz_158 r24_mi_158 mk mo mj ml) → va_S A s.heap H locs → ∀ ls : Array Slot, lv_has ls 6 [(5, .int v254_5), (4, .int j20_4), (0, .ref m0), (1, .int a1)] → W p l e (headSpec wsX5_raise rm_X5_raise).room s m ([.ref m0, .int a1] : List Value).toArray below meth c H locs 0 0 (MQ below (Q_X5_raise D cI m0 m1 m2 m3 m4 m5 m6 m7 m8 m9 m10 m11 mr mc me mw mh mn mu ms mt md mz mi mk mo mj ml a1 A) ([.ref m0, .int a1] : List Value).toArray s 0 0 A) (F0 m 294 ls [.int j42, .int v254_5, .ref m4]) := by
          intro H locs hP hD hS ls hl
          have h45 := hp.1
          replace hp := hp.2
          refine va_iast hx hb hK hP hD hS 4 0 rfl rfl h45 dX5_raise_294 (fun H locs hP hD hS => ?_)
          have hP : va_P D vwCl (W_X5 cI m0 m1 m2 m3 m4 m5 m6 m7 m8 m9 m10 m11 mr j20_mc me mw u7_0 mn mu ms (upd mt_254 (v254_5).toNatClampNeg j42) (upd r24_md_158 (j20_4).toNatClampNeg ((r24_md_158 (j20_4).toNatClampNeg) ||| (1 <<< (a1 &&& 31)))) r24_mz_158 r24_mi_158 mk mo mj ml) H := hP
          have hD : va_D A (W_X5 cI m0 m1 m2 m3 m4 m5 m6 m7 m8 m9 m10 m11 mr j20_mc me mw u7_0 mn mu ms (upd mt_254 (v254_5).toNatClampNeg j42) (upd r24_md_158 (j20_4).toNatClampNeg ((r24_md_158 (j20_4).toNatClampNeg) ||| (1 <<< (a1 &&& 31)))) r24_mz_158 r24_mi_158 mk mo mj ml) := hD
          refine lv_iinc (v := (v254_5 + 1)) (lv' := [(5, .int (v254_5 + 1)), (4, .int j20_4), (0, .ref m0), (1, .int a1)]) hx hb dX5_raise_295 hl (k := 0) rfl rfl (by decide) rfl (fun ls hl => ?_)
          refine lv_goto (tgt := 254) hx hb dX5_raise_298 (by decide) ?_
          exact ih _ _ hp he _ _ hP hD hS _ (lv_sub hl [0, 1, 2, 3] rfl)
        replace he := hJ42
        replace hp := hpJ42
        refine lv_if_eq (tgt := 287) hx hb dX5_raise_279 (by decide) (fun c43 => ?_) (fun c43 => ?_)
        · replace hp := hp.1 c43
          replace he := he.trans (if_pos c43)
          refine lv_aload_n hx hb dX5_raise_287 rfl (lv_at hl 2 rfl) ?_
          refine va_get (D := D) (ci := 5) (v := .ref m4) (C := RX5) (T := TX5) (N := 16) hx hb hts (by decide +kernel) hown hK hP 0 rfl rfl 4 (by decide) (hts (.fieldLink RX5 19 "AlarmgroveModel" "ticket" "[I") (by decide +kernel)) (fun _ h9 => h9) rfl dX5_raise_288 ?_
          refine lv_iload hx hb dX5_raise_291 (lv_at hl 0 rfl) ?_
          have h44 := hp.1
          replace hp := hp.2
          refine va_iald hx hb hK hP 4 0 rfl rfl h44 dX5_raise_293 ?_
          subst he
          exact kont42 _ _ hP hD hS _ (lv_sub hl [0, 1, 2, 3] rfl)
        · replace hp := hp.2 c43
          replace he := he.trans (if_neg c43)
          refine lv_iload hx hb dX5_raise_282 (lv_at hl 1 rfl) ?_
          refine lv_goto (tgt := 294) hx hb dX5_raise_284 (by decide) ?_
          subst he
          exact kont42 _ _ hP hD hS _ (lv_sub hl [0, 1, 2, 3] rfl)
  exact loop38 15 (0 : Int32) mt hpL38 hL38 _ _ hP hD hS _ (lv_sub hl [0, 1, 2, 3] rfl)
