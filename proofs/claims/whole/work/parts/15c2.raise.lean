set_option maxHeartbeats 4000000 in
set_option maxRecDepth 100000 in
theorem c_X5_raise_k10 {l : Launch}  {D : va_G} {cI : ClassId} {m0 m1 m2 m3 m4 m5 m6 m7 m8 m9 m10 m11 : Nat} {mr : Int32} {mc : Int32} {me : Int32} {mw : Int32} {mh : Int32} {mn : AA} {mu : AA} {ms : AA} {mt : AA} {md : AA} {mz : AA} {mi : AA} {mk : AA} {mo : AA} {mj : AA} {ml : AA} {a1 : Int32} {p : Program} {e : Env} {s : State} {m : MethodId} {below : List Frame} {meth : Method} {c : Code} {s₁ : State} (B : BodyLoose p l yX5_raise (headSpec wsX5_raise rm_X5_raise) cX5_raise 6 (some .int) e s m ([.ref m0, .int a1] : List Value).toArray below meth c s₁) (hml : c.maxLocals = 6) (hK : va_K D vwCl [(cI, .int)] s) (hN : NB s) {A : Nat → Prop} (hA : ∀ q : Nat, s.heap.size ≤ q → A q) (u7_0 : Int32) (r10_v62_4 : Int32) (hp : (((0 ≤ r10_v62_4 → True) ∧ (¬ (0 ≤ r10_v62_4) → (vp_in (mc + 1) 302 ∧ (vp_in (mc + 1) 302 ∧ True)))) ∧ ∀ (j20_4 : Int32) (j20_mc : Int32) (j20_md : AA) (j20_mz : AA), (if 0 ≤ r10_v62_4 then (r10_v62_4, mc, md, mz) else ((mc + 1), (mc + 1), (upd md ((mc + 1)).toNatClampNeg 0), (upd mz ((mc + 1)).toNatClampNeg 1))) = (j20_4, j20_mc, j20_md, j20_mz) → (p_X5_raise_L158 mr mu a1 j20_4 j20_mc 302 (j20_4 + 1) j20_md j20_mz mi ∧ ∀ (r24_v158_5 : Int32) (r24_md_158 : AA) (r24_mz_158 : AA) (r24_mi_158 : AA), f_X5_raise_L158 mr mu a1 j20_4 j20_mc 302 (j20_4 + 1) j20_md j20_mz mi = (r24_v158_5, r24_md_158, r24_mz_158, r24_mi_158) → (vp_in j20_4 302 ∧ (vp_in j20_4 302 ∧ (p_X5_raise_L254 a1 j20_4 r24_md_158 15 (0 : Int32) mt ∧ ∀ (r38_v254_5 : Int32) (r38_mt_254 : AA), f_X5_raise_L254 a1 j20_4 r24_md_158 15 (0 : Int32) mt = (r38_v254_5, r38_mt_254) → (vp_in a1 14 ∧ (p_X5_notes me ∧ ∀ (u47_0 : Int32) (u47_1 : AA) (u47_2 : AA) (u47_3 : AA) (u47_4 : AA), f_X5_notes me mw mk mo mj ml (0 : Int32) a1 ((-1) : Int32) = (u47_0, u47_1, u47_2, u47_3, u47_4) → True)))))))) (he : f_X5_raise mr mc me mw mu ms mt md mz mi mk mo mj ml a1 = (match (if 0 ≤ r10_v62_4 then (r10_v62_4, mc, md, mz) else ((mc + 1), (mc + 1), (upd md ((mc + 1)).toNatClampNeg 0), (upd mz ((mc + 1)).toNatClampNeg 1))) with | (j20_4, j20_mc, j20_md, j20_mz) => (match f_X5_raise_L158 mr mu a1 j20_4 j20_mc 302 (j20_4 + 1) j20_md j20_mz mi with | (r24_v158_5, r24_md_158, r24_mz_158, r24_mi_158) => (match f_X5_raise_L254 a1 j20_4 r24_md_158 15 (0 : Int32) mt with | (r38_v254_5, r38_mt_254) => (match f_X5_notes me mw mk mo mj ml (0 : Int32) a1 ((-1) : Int32) with | (u47_0, u47_1, u47_2, u47_3, u47_4) => (j20_4, (mr ||| (1 <<< (a1 &&& 31))), j20_mc, u47_0, u7_0, (upd ms (a1).toNatClampNeg mw), r38_mt_254, (upd r24_md_158 (j20_4).toNatClampNeg ((r24_md_158 (j20_4).toNatClampNeg) ||| (1 <<< (a1 &&& 31)))), r24_mz_158, r24_mi_158, u47_1, u47_2, u47_3, u47_4)))))) : ∀ (H : Heap) (locs : List Loc), va_P D vwCl (W_X5 cI m0 m1 m2 m3 m4 m5 m6 m7 m8 m9 m10 m11 mr mc me mw u7_0 mn mu ms mt md mz mi mk mo mj ml) H → va_D A (W_X5 cI m0 m1 m2 m3 m4 m5 m6 m7 m8 m9 m10 m11 mr mc me mw u7_0 mn mu ms mt md mz mi mk mo mj ml) → va_S A s.heap H locs → ∀ ls : Array Slot, lv_has ls 6 [(4, .int r10_v62_4), (3, .int ((f_X5_kin mu a1) &&& mr)), (0, .ref m0), (1, .int a1)] → W p l e (headSpec wsX5_raise rm_X5_raise).room s m ([.ref m0, .int a1] : List Value).toArray below meth c H locs 0 0 (MQ below (Q_X5_raise D cI m0 m1 m2 m3 m4 m5 m6 m7 m8 m9 m10 m11 mr mc me mw mh mn mu ms mt md mz mi mk mo mj ml a1 A) ([.ref m0, .int a1] : List Value).toArray s 0 0 A) (F0 m 115 ls []) := by
  have hx := B.exec
  have hb := B.bytes
  have hr := B.returns
  have hts := atoms_spec (ws := wsX5_raise) B.pre
  have hown : s.vm.findClass RX5 = some m.cls := findClass_of_methodNamed B.named
  have hlocks := B.notSynchronized
  intro H locs hP hD hS ls hl
  refine lv_iload hx hb dX5_raise_115 (lv_at hl 0 rfl) ?_
  obtain ⟨⟨j20_4, j20_mc, j20_md, j20_mz⟩, hJ20⟩ : ∃ z : Int32 × Int32 × AA × AA, z = (if 0 ≤ r10_v62_4 then (r10_v62_4, mc, md, mz) else ((mc + 1), (mc + 1), (upd md ((mc + 1)).toNatClampNeg 0), (upd mz ((mc + 1)).toNatClampNeg 1))) := ⟨_, rfl⟩
  rw [← hJ20] at he
  replace he : f_X5_raise mr mc me mw mu ms mt md mz mi mk mo mj ml a1 = (match f_X5_raise_L158 mr mu a1 j20_4 j20_mc 302 (j20_4 + 1) j20_md j20_mz mi with | (r24_v158_5, r24_md_158, r24_mz_158, r24_mi_158) => (match f_X5_raise_L254 a1 j20_4 r24_md_158 15 (0 : Int32) mt with | (r38_v254_5, r38_mt_254) => (match f_X5_notes me mw mk mo mj ml (0 : Int32) a1 ((-1) : Int32) with | (u47_0, u47_1, u47_2, u47_3, u47_4) => (j20_4, (mr ||| (1 <<< (a1 &&& 31))), j20_mc, u47_0, u7_0, (upd ms (a1).toNatClampNeg mw), r38_mt_254, (upd r24_md_158 (j20_4).toNatClampNeg ((r24_md_158 (j20_4).toNatClampNeg) ||| (1 <<< (a1 &&& 31)))), r24_mz_158, r24_mi_158, u47_1, u47_2, u47_3, u47_4)))) := he
  have hpJ20 := hp.1
  replace hp := hp.2 _ _ _ _  hJ20.symm
  have kont20 : ∀ (H : Heap) (locs : List Loc), va_P D vwCl (W_X5 cI m0 m1 m2 m3 m4 m5 m6 m7 m8 m9 m10 m11 mr j20_mc me mw u7_0 mn mu ms mt j20_md j20_mz mi mk mo mj ml) H → va_D A (W_X5 cI m0 m1 m2 m3 m4 m5 m6 m7 m8 m9 m10 m11 mr j20_mc me mw u7_0 mn mu ms mt j20_md j20_mz mi mk mo mj ml) → va_S A s.heap H locs → ∀ ls : Array Slot, lv_has ls 6 [(4, .int j20_4), (3, .int ((f_X5_kin mu a1) &&& mr)), (0, .ref m0), (1, .int a1)] → W p l e (headSpec wsX5_raise rm_X5_raise).room s m ([.ref m0, .int a1] : List Value).toArray below meth c H locs 0 0 (MQ below (Q_X5_raise D cI m0 m1 m2 m3 m4 m5 m6 m7 m8 m9 m10 m11 mr mc me mw mh mn mu ms mt md mz mi mk mo mj ml a1 A) ([.ref m0, .int a1] : List Value).toArray s 0 0 A) (F0 m 152 ls []) := by
    intro H locs hP hD hS ls hl
    exact c_X5_raise_k20 B hml hK hN hA u7_0 j20_4 j20_mc j20_md j20_mz hp he H locs hP hD hS ls hl
  replace he := hJ20
  replace hp := hpJ20
  refine lv_if_ge (tgt := 152) hx hb dX5_raise_117 (by decide) (fun c21 => ?_) (fun c21 => ?_)
  · replace hp := hp.1 c21
    replace he := he.trans (if_pos c21)
    simp only [Prod.mk.injEq] at he
    obtain ⟨rfl, rfl, rfl, rfl⟩ := he
    exact kont20 _ _ hP hD hS _ (lv_sub hl [0, 1, 2, 3] rfl)
  · replace hp := hp.2 c21
    replace he := he.trans (if_neg c21)
    refine lv_aload_n hx hb dX5_raise_120 rfl (lv_at hl 2 rfl) ?_
    refine lv_dup hx hb dX5_raise_121 rfl ?_
    refine va_get (D := D) (ci := 5) (v := .int mc) (C := RX5) (T := TX5) (N := 16) hx hb hts (by decide +kernel) hown hK hP 0 rfl rfl 8 (by decide) (hts (.fieldLink RX5 75 "AlarmgroveModel" "tickets" "I") (by decide +kernel)) (fun _ h9 => h9) rfl dX5_raise_122 ?_
    refine lv_iconst (v := 1) hx hb dX5_raise_125 (by decide) ?_
    refine lv_iadd hx hb dX5_raise_126 ?_
    refine va_put (D := D) (ci := 5) (v := .int (mc + 1)) (ty := .int) (C := RX5) (T := TX5) (N := 16) hx hb hts (by decide +kernel) tyX5 tyX5_ok nmX5 hown hK hP hD hS 0 rfl rfl 8 (by decide) (hts (.fieldLink RX5 75 "AlarmgroveModel" "tickets" "I") (by decide +kernel)) (fun _ h9 => h9) rfl (by decide +kernel) rfl rfl (Nat.le_of_ble_eq_true rfl) dX5_raise_127 (fun H locs hP hD hS => ?_)
    have hP : va_P D vwCl (W_X5 cI m0 m1 m2 m3 m4 m5 m6 m7 m8 m9 m10 m11 mr (mc + 1) me mw u7_0 mn mu ms mt md mz mi mk mo mj ml) H := hP
    have hD : va_D A (W_X5 cI m0 m1 m2 m3 m4 m5 m6 m7 m8 m9 m10 m11 mr (mc + 1) me mw u7_0 mn mu ms mt md mz mi mk mo mj ml) := hD
    refine lv_aload_n hx hb dX5_raise_130 rfl (lv_at hl 2 rfl) ?_
    refine va_get (D := D) (ci := 5) (v := .int (mc + 1)) (C := RX5) (T := TX5) (N := 16) hx hb hts (by decide +kernel) hown hK hP 0 rfl rfl 8 (by decide) (hts (.fieldLink RX5 75 "AlarmgroveModel" "tickets" "I") (by decide +kernel)) (fun _ h9 => h9) rfl dX5_raise_131 ?_
    refine lv_istore (lv' := [(4, .int (mc + 1)), (3, .int ((f_X5_kin mu a1) &&& mr)), (0, .ref m0), (1, .int a1)]) hx hb dX5_raise_134 hl (by decide) rfl (fun ls hl => ?_)
    refine lv_aload_n hx hb dX5_raise_136 rfl (lv_at hl 2 rfl) ?_
    refine va_get (D := D) (ci := 5) (v := .ref m6) (C := RX5) (T := TX5) (N := 16) hx hb hts (by decide +kernel) hown hK hP 0 rfl rfl 6 (by decide) (hts (.fieldLink RX5 25 "AlarmgroveModel" "states" "[I") (by decide +kernel)) (fun _ h9 => h9) rfl dX5_raise_137 ?_
    refine lv_iload hx hb dX5_raise_140 (lv_at hl 0 rfl) ?_
    refine lv_iconst (v := 1) hx hb dX5_raise_142 (by decide) ?_
    have h22 := hp.1
    replace hp := hp.2
    refine va_iast hx hb hK hP hD hS 6 0 rfl rfl h22 dX5_raise_143 (fun H locs hP hD hS => ?_)
    have hP : va_P D vwCl (W_X5 cI m0 m1 m2 m3 m4 m5 m6 m7 m8 m9 m10 m11 mr (mc + 1) me mw u7_0 mn mu ms mt md (upd mz ((mc + 1)).toNatClampNeg 1) mi mk mo mj ml) H := hP
    have hD : va_D A (W_X5 cI m0 m1 m2 m3 m4 m5 m6 m7 m8 m9 m10 m11 mr (mc + 1) me mw u7_0 mn mu ms mt md (upd mz ((mc + 1)).toNatClampNeg 1) mi mk mo mj ml) := hD
    refine lv_aload_n hx hb dX5_raise_144 rfl (lv_at hl 2 rfl) ?_
    refine va_get (D := D) (ci := 5) (v := .ref m5) (C := RX5) (T := TX5) (N := 16) hx hb hts (by decide +kernel) hown hK hP 0 rfl rfl 5 (by decide) (hts (.fieldLink RX5 22 "AlarmgroveModel" "nodes" "[I") (by decide +kernel)) (fun _ h9 => h9) rfl dX5_raise_145 ?_
    refine lv_iload hx hb dX5_raise_148 (lv_at hl 0 rfl) ?_
    refine lv_iconst (v := 0) hx hb dX5_raise_150 (by decide) ?_
    have h23 := hp.1
    replace hp := hp.2
    refine va_iast hx hb hK hP hD hS 5 0 rfl rfl h23 dX5_raise_151 (fun H locs hP hD hS => ?_)
    have hP : va_P D vwCl (W_X5 cI m0 m1 m2 m3 m4 m5 m6 m7 m8 m9 m10 m11 mr (mc + 1) me mw u7_0 mn mu ms mt (upd md ((mc + 1)).toNatClampNeg 0) (upd mz ((mc + 1)).toNatClampNeg 1) mi mk mo mj ml) H := hP
    have hD : va_D A (W_X5 cI m0 m1 m2 m3 m4 m5 m6 m7 m8 m9 m10 m11 mr (mc + 1) me mw u7_0 mn mu ms mt (upd md ((mc + 1)).toNatClampNeg 0) (upd mz ((mc + 1)).toNatClampNeg 1) mi mk mo mj ml) := hD
    simp only [Prod.mk.injEq] at he
    obtain ⟨rfl, rfl, rfl, rfl⟩ := he
    exact kont20 _ _ hP hD hS _ (lv_sub hl [0, 1, 2, 3] rfl)
