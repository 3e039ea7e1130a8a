set_option maxHeartbeats 4000000 in
set_option maxRecDepth 100000 in
theorem c_X5_raise_k20 {l : Launch}  {D : va_G} {cI : ClassId} {m0 m1 m2 m3 m4 m5 m6 m7 m8 m9 m10 m11 : Nat} {mr : Int32} {mc : Int32} {me : Int32} {mw : Int32} {mh : Int32} {mn : AA} {mu : AA} {ms : AA} {mt : AA} {md : AA} {mz : AA} {mi : AA} {mk : AA} {mo : AA} {mj : AA} {ml : AA} {a1 : Int32} {p : Program} {e : Env} {s : State} {m : MethodId} {below : List Frame} {meth : Method} {c : Code} {s₁ : State} (B : BodyLoose p l yX5_raise (headSpec wsX5_raise rm_X5_raise) cX5_raise 6 (some .int) e s m ([.ref m0, .int a1] : List Value).toArray below meth c s₁) (hml : c.maxLocals = 6) (hK : va_K D vwCl [(cI, .int)] s) (hN : NB s) {A : Nat → Prop} (hA : ∀ q : Nat, s.heap.size ≤ q → A q) (u7_0 : Int32) (j20_4 : Int32) (j20_mc : Int32) (j20_md : AA) (j20_mz : AA) (hp : (p_X5_raise_L158 mr mu a1 j20_4 j20_mc 302 (j20_4 + 1) j20_md j20_mz mi ∧ ∀ (r24_v158_5 : Int32) (r24_md_158 : AA) (r24_mz_158 : AA) (r24_mi_158 : AA), f_X5_raise_L158 mr mu a1 j20_4 j20_mc 302 (j20_4 + 1) j20_md j20_mz mi = (r24_v158_5, r24_md_158, r24_mz_158, r24_mi_158) → (vp_in j20_4 302 ∧ (vp_in j20_4 302 ∧ (p_X5_raise_L254 a1 j20_4 r24_md_158 15 (0 : Int32) mt ∧ ∀ (r38_v254_5 : Int32) (r38_mt_254 : AA), f_X5_raise_L254 a1 j20_4 r24_md_158 15 (0 : Int32) mt = (r38_v254_5, r38_mt_254) → (vp_in a1 14 ∧ (p_X5_notes me ∧ ∀ (u47_0 : Int32) (u47_1 : AA) (u47_2 : AA) (u47_3 : AA) (u47_4 : AA), f_X5_notes me mw mk mo mj ml (0 : Int32) a1 ((-1) : Int32) = (u47_0, u47_1, u47_2, u47_3, u47_4) → True))))))) (he : f_X5_raise mr mc me mw mu ms mt md mz mi mk mo mj ml a1 = (match f_X5_raise_L158 mr mu a1 j20_4 j20_mc 302 (j20_4 + 1) j20_md j20_mz mi with | (r24_v158_5, r24_md_158, r24_mz_158, r24_mi_158) => (match f_X5_raise_L254 a1 j20_4 r24_md_158 15 (0 : Int32) mt with | (r38_v254_5, r38_mt_254) => (match f_X5_notes me mw mk mo mj ml (0 : Int32) a1 ((-1) : Int32) with | (u47_0, u47_1, u47_2, u47_3, u47_4) => (j20_4, (mr ||| (1 <<< (a1 &&& 31))), j20_mc, u47_0, u7_0, (upd ms (a1).toNatClampNeg mw), r38_mt_254, (upd r24_md_158 (j20_4).toNatClampNeg ((r24_md_158 (j20_4).toNatClampNeg) ||| (1 <<< (a1 &&& 31)))), r24_mz_158, r24_mi_158, u47_1, u47_2, u47_3, u47_4))))) : ∀ (H : Heap) (locs : List Loc), va_P D vwCl (W_X5 cI m0 m1 m2 m3 m4 m5 m6 m7 m8 m9 m10 m11 mr j20_mc me mw u7_0 mn mu ms mt j20_md j20_mz mi mk mo mj ml) H → va_D A (W_X5 cI m0 m1 m2 m3 m4 m5 m6 m7 m8 m9 m10 m11 mr j20_mc me mw u7_0 mn mu ms mt j20_md j20_mz mi mk mo mj ml) → va_S A s.heap H locs → ∀ ls : Array Slot, lv_has ls 6 [(4, .int j20_4), (3, .int ((f_X5_kin mu a1) &&& mr)), (0, .ref m0), (1, .int a1)] → W p l e (headSpec wsX5_raise rm_X5_raise).room s m ([.ref m0, .int a1] : List Value).toArray below meth c H locs 0 0 (MQ below (Q_X5_raise D cI m0 m1 m2 m3 m4 m5 m6 m7 m8 m9 m10 m11 mr mc me mw mh mn mu ms mt md mz mi mk mo mj ml a1 A) ([.ref m0, .int a1] : List Value).toArray s 0 0 A) (F0 m 152 ls []) := by
  have hx := B.exec
  have hb := B.bytes
  have hr := B.returns
  have hts := atoms_spec (ws := wsX5_raise) B.pre
  have hown : s.vm.findClass RX5 = some m.cls := findClass_of_methodNamed B.named
  have hlocks := B.notSynchronized
  intro H locs hP hD hS ls hl
  refine lv_iload hx hb dX5_raise_152 (lv_at hl 0 rfl) ?_
  refine lv_iconst (v := 1) hx hb dX5_raise_154 (by decide) ?_
  refine lv_iadd hx hb dX5_raise_155 ?_
  refine lv_istore (lv' := [(5, .int (j20_4 + 1)), (4, .int j20_4), (3, .int ((f_X5_kin mu a1) &&& mr)), (0, .ref m0), (1, .int a1)]) hx hb dX5_raise_156 hl (by decide) rfl (fun ls hl => ?_)
  obtain ⟨⟨r24_v158_5, r24_md_158, r24_mz_158, r24_mi_158⟩, hL24⟩ : ∃ z, z = f_X5_raise_L158 mr mu a1 j20_4 j20_mc 302 (j20_4 + 1) j20_md j20_mz mi := ⟨_, rfl⟩
  rw [← hL24] at he
  replace he : f_X5_raise mr mc me mw mu ms mt md mz mi mk mo mj ml a1 = (match f_X5_raise_L254 a1 j20_4 r24_md_158 15 (0 : Int32) mt with | (r38_v254_5, r38_mt_254) => (match f_X5_notes me mw mk mo mj ml (0 : Int32) a1 ((-1) : Int32) with | (u47_0, u47_1, u47_2, u47_3, u47_4) => (j20_4, (mr ||| (1 <<< (a1 &&& 31))), j20_mc, u47_0, u7_0, (upd ms (a1).toNatClampNeg mw), r38_mt_254, (upd r24_md_158 (j20_4).toNatClampNeg ((r24_md_158 (j20_4).toNatClampNeg) ||| (1 <<< (a1 &&& 31)))), r24_mz_158, r24_mi_158, u47_1, u47_2, u47_3, u47_4))) := he
  have hpL24 := hp.1
  replace hp := hp.2 _ _ _ _ hL24.symm
  have kont24 : ∀ (x24_v158_5 : Int32) (x24_md_158 : AA) (x24_mz_158 : AA) (x24_mi_158 : AA), (r24_v158_5, r24_md_158, r24_mz_158, r24_mi_158) = (x24_v158_5, x24_md_158, x24_mz_158, x24_mi_158) → ∀ (H : Heap) (locs : List Loc), va_P D vwCl (W_X5 cI m0 m1 m2 m3 m4 m5 m6 m7 m8 m9 m10 m11 mr j20_mc me mw u7_0 mn mu ms mt x24_md_158 x24_mz_158 x24_mi_158 mk mo mj ml) H → va_D A (W_X5 cI m0 m1 m2 m3 m4 m5 m6 m7 m8 m9 m10 m11 mr j20_mc me mw u7_0 mn mu ms mt x24_md_158 x24_mz_158 x24_mi_158 mk mo mj ml) → va_S A s.heap H locs → ∀ ls : Array Slot, lv_has ls 6 [(4, .int j20_4), (0, .ref m0), (1, .int a1)] → W p l e (headSpec wsX5_raise rm_X5_raise).room s m ([.ref m0, .int a1] : List Value).toArray below meth c H locs 0 0 (MQ below (Q_X5_raise D cI m0 m1 m2 m3 m4 m5 m6 m7 m8 m9 m10 m11 mr mc me mw mh mn mu ms mt md mz mi mk mo mj ml a1 A) ([.ref m0, .int a1] : List Value).toArray s 0 0 A) (F0 m 238 ls []) := by
    intro x24_v158_5 x24_md_158 x24_mz_158 x24_mi_158 hxe H locs hP hD hS ls hl
    simp only [Prod.mk.injEq] at hxe
    obtain ⟨rfl, rfl, rfl, rfl⟩ := hxe
    exact c_X5_raise_k24 B hml hK hN hA u7_0 j20_4 j20_mc r24_md_158 r24_mz_158 r24_mi_158 hp he H locs hP hD hS ls hl
  have loop24 : ∀ (n : Nat) (v158_5 : Int32) (md_158 : AA) (mz_158 : AA) (mi_158 : AA), p_X5_raise_L158 mr mu a1 j20_4 j20_mc n v158_5 md_158 mz_158 mi_158 → (r24_v158_5, r24_md_158, r24_mz_158, r24_mi_158) = f_X5_raise_L158 mr mu a1 j20_4 j20_mc n v158_5 md_158 mz_158 mi_158 → ∀ (H : Heap) (locs : List Loc), va_P D vwCl (W_X5 cI m0 m1 m2 m3 m4 m5 m6 m7 m8 m9 m10 m11 mr j20_mc me mw u7_0 mn mu ms mt md_158 mz_158 mi_158 mk mo mj ml) H → va_D A (W_X5 cI m0 m1 m2 m3 m4 m5 m6 m7 m8 m9 m10 m11 mr j20_mc me mw u7_0 mn mu ms mt md_158 mz_158 mi_158 mk mo mj ml) → va_S A s.heap H locs → ∀ ls : Array Slot, lv_has ls 6 [(5, .int v158_5), (4, .int j20_4), (3, .int ((f_X5_kin mu a1) &&& mr)), (0, .ref m0), (1, .int a1)] → W p l e (headSpec wsX5_raise rm_X5_raise).room s m ([.ref m0, .int a1] : List Value).toArray below meth c H locs 0 0 (MQ below (Q_X5_raise D cI m0 m1 m2 m3 m4 m5 m6 m7 m8 m9 m10 m11 mr mc me mw mh mn mu ms mt md mz mi mk mo mj ml a1 A) ([.ref m0, .int a1] : List Value).toArray s 0 0 A) (F0 m 158 ls []) := by
    intro n
    induction n with
    | zero => exact fun _ _ _ _ hp => hp.elim
    | succ n ih =>
      intro v158_5 md_158 mz_158 mi_158 hp he H locs hP hD hS ls hl
      replace hp := Eq.mp (p_X5_raise_L158.eq_2 ..) hp
      replace he := he.trans (f_X5_raise_L158.eq_2 ..)
      refine lv_iload hx hb dX5_raise_158 (lv_at hl 0 rfl) ?_
      refine lv_aload_n hx hb dX5_raise_160 rfl (lv_at hl 3 rfl) ?_
      refine va_get (D := D) (ci := 5) (v := .int j20_mc) (C := RX5) (T := TX5) (N := 16) hx hb hts (by decide +kernel) hown hK hP 0 rfl rfl 8 (by decide) (hts (.fieldLink RX5 75 "AlarmgroveModel" "tickets" "I") (by decide +kernel)) (fun _ h9 => h9) rfl dX5_raise_161 ?_
      refine lv_icmp_gt (tgt := 238) hx hb dX5_raise_164 (by decide) (fun c25 => ?_) (fun c25 => ?_)
      · replace hp := hp.1 c25
        replace he := he.trans (if_pos c25)
        exact kont24 _ _ _ _ he _ _ hP hD hS _ (lv_sub hl [1, 3, 4] rfl)
      · replace hp := hp.2 c25
        replace he := he.trans (if_neg c25)
        refine lv_aload_n hx hb dX5_raise_167 rfl (lv_at hl 3 rfl) ?_
        refine va_get (D := D) (ci := 5) (v := .ref m6) (C := RX5) (T := TX5) (N := 16) hx hb hts (by decide +kernel) hown hK hP 0 rfl rfl 6 (by decide) (hts (.fieldLink RX5 25 "AlarmgroveModel" "states" "[I") (by decide +kernel)) (fun _ h9 => h9) rfl dX5_raise_168 ?_
        refine lv_iload hx hb dX5_raise_171 (lv_at hl 0 rfl) ?_
        have h26 := hp.1
        replace hp := hp.2
        refine va_iald hx hb hK hP 6 0 rfl rfl h26 dX5_raise_173 ?_
        refine lv_iconst (v := 1) hx hb dX5_raise_174 (by decide) ?_
        refine lv_icmp_ne (tgt := 232) hx hb dX5_raise_175 (by decide) (fun c27 => ?_) (fun c27 => ?_)
        · replace hp := hp.2 c27
          replace he := he.trans (if_neg c27)
          refine lv_iinc (v := (v158_5 + 1)) (lv' := [(5, .int (v158_5 + 1)), (4, .int j20_4), (3, .int ((f_X5_kin mu a1) &&& mr)), (0, .ref m0), (1, .int a1)]) hx hb dX5_raise_232 hl (k := 0) rfl rfl (by decide) rfl (fun ls hl => ?_)
          refine lv_goto (tgt := 158) hx hb dX5_raise_235 (by decide) ?_
          exact ih _ _ _ _ hp he _ _ hP hD hS _ (lv_sub hl [0, 1, 2, 3, 4] rfl)
        · replace hp := hp.1 c27
          replace he := he.trans (if_pos c27)
          refine lv_aload_n hx hb dX5_raise_178 rfl (lv_at hl 3 rfl) ?_
          refine va_get (D := D) (ci := 5) (v := .ref m5) (C := RX5) (T := TX5) (N := 16) hx hb hts (by decide +kernel) hown hK hP 0 rfl rfl 5 (by decide) (hts (.fieldLink RX5 22 "AlarmgroveModel" "nodes" "[I") (by decide +kernel)) (fun _ h9 => h9) rfl dX5_raise_179 ?_
          refine lv_iload hx hb dX5_raise_182 (lv_at hl 0 rfl) ?_
          have h28 := hp.1
          replace hp := hp.2
          refine va_iald hx hb hK hP 5 0 rfl rfl h28 dX5_raise_184 ?_
          refine lv_iload_n hx hb dX5_raise_185 rfl (lv_at hl 2 rfl) ?_
          refine lv_iand hx hb dX5_raise_186 ?_
          refine lv_if_eq (tgt := 232) hx hb dX5_raise_187 (by decide) (fun c29 => ?_) (fun c29 => ?_)
          · replace hp := hp.1 c29
            replace he := he.trans (if_pos c29)
            refine lv_iinc (v := (v158_5 + 1)) (lv' := [(5, .int (v158_5 + 1)), (4, .int j20_4), (3, .int ((f_X5_kin mu a1) &&& mr)), (0, .ref m0), (1, .int a1)]) hx hb dX5_raise_232 hl (k := 0) rfl rfl (by decide) rfl (fun ls hl => ?_)
            refine lv_goto (tgt := 158) hx hb dX5_raise_235 (by decide) ?_
            exact ih _ _ _ _ hp he _ _ hP hD hS _ (lv_sub hl [0, 1, 2, 3, 4] rfl)
          · replace hp := hp.2 c29
            replace he := he.trans (if_neg c29)
            refine lv_aload_n hx hb dX5_raise_190 rfl (lv_at hl 3 rfl) ?_
            refine va_get (D := D) (ci := 5) (v := .ref m5) (C := RX5) (T := TX5) (N := 16) hx hb hts (by decide +kernel) hown hK hP 0 rfl rfl 5 (by decide) (hts (.fieldLink RX5 22 "AlarmgroveModel" "nodes" "[I") (by decide +kernel)) (fun _ h9 => h9) rfl dX5_raise_191 ?_
            refine lv_iload hx hb dX5_raise_194 (lv_at hl 1 rfl) ?_
            refine lv_dup2_11 hx hb dX5_raise_196 rfl rfl ?_
            have h30 := hp.1
            replace hp := hp.2
            refine va_iald hx hb hK hP 5 0 rfl rfl h30 dX5_raise_197 ?_
            refine lv_aload_n hx hb dX5_raise_198 rfl (lv_at hl 3 rfl) ?_
            refine va_get (D := D) (ci := 5) (v := .ref m5) (C := RX5) (T := TX5) (N := 16) hx hb hts (by decide +kernel) hown hK hP 0 rfl rfl 5 (by decide) (hts (.fieldLink RX5 22 "AlarmgroveModel" "nodes" "[I") (by decide +kernel)) (fun _ h9 => h9) rfl dX5_raise_199 ?_
            refine lv_iload hx hb dX5_raise_202 (lv_at hl 0 rfl) ?_
            have h31 := hp.1
            replace hp := hp.2
            refine va_iald hx hb hK hP 5 0 rfl rfl h31 dX5_raise_204 ?_
            refine lv_ior hx hb dX5_raise_205 ?_
            have h32 := hp.1
            replace hp := hp.2
            refine va_iast hx hb hK hP hD hS 5 0 rfl rfl h32 dX5_raise_206 (fun H locs hP hD hS => ?_)
            have hP : va_P D vwCl (W_X5 cI m0 m1 m2 m3 m4 m5 m6 m7 m8 m9 m10 m11 mr j20_mc me mw u7_0 mn mu ms mt (upd md_158 (j20_4).toNatClampNeg ((md_158 (j20_4).toNatClampNeg) ||| (md_158 (v158_5).toNatClampNeg))) mz_158 mi_158 mk mo mj ml) H := hP
            have hD : va_D A (W_X5 cI m0 m1 m2 m3 m4 m5 m6 m7 m8 m9 m10 m11 mr j20_mc me mw u7_0 mn mu ms mt (upd md_158 (j20_4).toNatClampNeg ((md_158 (j20_4).toNatClampNeg) ||| (md_158 (v158_5).toNatClampNeg))) mz_158 mi_158 mk mo mj ml) := hD
            refine lv_aload_n hx hb dX5_raise_207 rfl (lv_at hl 3 rfl) ?_
            refine va_get (D := D) (ci := 5) (v := .ref m5) (C := RX5) (T := TX5) (N := 16) hx hb hts (by decide +kernel) hown hK hP 0 rfl rfl 5 (by decide) (hts (.fieldLink RX5 22 "AlarmgroveModel" "nodes" "[I") (by decide +kernel)) (fun _ h9 => h9) rfl dX5_raise_208 ?_
            refine lv_iload hx hb dX5_raise_211 (lv_at hl 0 rfl) ?_
            refine lv_iconst (v := 0) hx hb dX5_raise_213 (by decide) ?_
            have h33 := hp.1
            replace hp := hp.2
            refine va_iast hx hb hK hP hD hS 5 0 rfl rfl h33 dX5_raise_214 (fun H locs hP hD hS => ?_)
            have hP : va_P D vwCl (W_X5 cI m0 m1 m2 m3 m4 m5 m6 m7 m8 m9 m10 m11 mr j20_mc me mw u7_0 mn mu ms mt (upd (upd md_158 (j20_4).toNatClampNeg ((md_158 (j20_4).toNatClampNeg) ||| (md_158 (v158_5).toNatClampNeg))) (v158_5).toNatClampNeg 0) mz_158 mi_158 mk mo mj ml) H := hP
            have hD : va_D A (W_X5 cI m0 m1 m2 m3 m4 m5 m6 m7 m8 m9 m10 m11 mr j20_mc me mw u7_0 mn mu ms mt (upd (upd md_158 (j20_4).toNatClampNeg ((md_158 (j20_4).toNatClampNeg) ||| (md_158 (v158_5).toNatClampNeg))) (v158_5).toNatClampNeg 0) mz_158 mi_158 mk mo mj ml) := hD
            refine lv_aload_n hx hb dX5_raise_215 rfl (lv_at hl 3 rfl) ?_
            refine va_get (D := D) (ci := 5) (v := .ref m6) (C := RX5) (T := TX5) (N := 16) hx hb hts (by decide +kernel) hown hK hP 0 rfl rfl 6 (by decide) (hts (.fieldLink RX5 25 "AlarmgroveModel" "states" "[I") (by decide +kernel)) (fun _ h9 => h9) rfl dX5_raise_216 ?_
            refine lv_iload hx hb dX5_raise_219 (lv_at hl 0 rfl) ?_
            refine lv_iconst (v := 3) hx hb dX5_raise_221 (by decide) ?_
            have h34 := hp.1
            replace hp := hp.2
            refine va_iast hx hb hK hP hD hS 6 0 rfl rfl h34 dX5_raise_222 (fun H locs hP hD hS => ?_)
            have hP : va_P D vwCl (W_X5 cI m0 m1 m2 m3 m4 m5 m6 m7 m8 m9 m10 m11 mr j20_mc me mw u7_0 mn mu ms mt (upd (upd md_158 (j20_4).toNatClampNeg ((md_158 (j20_4).toNatClampNeg) ||| (md_158 (v158_5).toNatClampNeg))) (v158_5).toNatClampNeg 0) (upd mz_158 (v158_5).toNatClampNeg 3) mi_158 mk mo mj ml) H := hP
            have hD : va_D A (W_X5 cI m0 m1 m2 m3 m4 m5 m6 m7 m8 m9 m10 m11 mr j20_mc me mw u7_0 mn mu ms mt (upd (upd md_158 (j20_4).toNatClampNeg ((md_158 (j20_4).toNatClampNeg) ||| (md_158 (v158_5).toNatClampNeg))) (v158_5).toNatClampNeg 0) (upd mz_158 (v158_5).toNatClampNeg 3) mi_158 mk mo mj ml) := hD
            refine lv_aload_n hx hb dX5_raise_223 rfl (lv_at hl 3 rfl) ?_
            refine va_get (D := D) (ci := 5) (v := .ref m7) (C := RX5) (T := TX5) (N := 16) hx hb hts (by decide +kernel) hown hK hP 0 rfl rfl 7 (by decide) (hts (.fieldLink RX5 28 "AlarmgroveModel" "into" "[I") (by decide +kernel)) (fun _ h9 => h9) rfl dX5_raise_224 ?_
            refine lv_iload hx hb dX5_raise_227 (lv_at hl 0 rfl) ?_
            refine lv_iload hx hb dX5_raise_229 (lv_at hl 1 rfl) ?_
            have h35 := hp.1
            replace hp := hp.2
            refine va_iast hx hb hK hP hD hS 7 0 rfl rfl h35 dX5_raise_231 (fun H locs hP hD hS => ?_)
            have hP : va_P D vwCl (W_X5 cI m0 m1 m2 m3 m4 m5 m6 m7 m8 m9 m10 m11 mr j20_mc me mw u7_0 mn mu ms mt (upd (upd md_158 (j20_4).toNatClampNeg ((md_158 (j20_4).toNatClampNeg) ||| (md_158 (v158_5).toNatClampNeg))) (v158_5).toNatClampNeg 0) (upd mz_158 (v158_5).toNatClampNeg 3) (upd mi_158 (v158_5).toNatClampNeg j20_4) mk mo mj ml) H := hP
            have hD : va_D A (W_X5 cI m0 m1 m2 m3 m4 m5 m6 m7 m8 m9 m10 m11 mr j20_mc me mw u7_0 mn mu ms mt (upd (upd md_158 (j20_4).toNatClampNeg ((md_158 (j20_4).toNatClampNeg) ||| (md_158 (v158_5).toNatClampNeg))) (v158_5).toNatClampNeg 0) (upd mz_158 (v158_5).toNatClampNeg 3) (upd mi_158 (v158_5).toNatClampNeg j20_4) mk mo mj ml) := hD
            refine lv_iinc (v := (v158_5 + 1)) (lv' := [(5, .int (v158_5 + 1)), (4, .int j20_4), (3, .int ((f_X5_kin mu a1) &&& mr)), (0, .ref m0), (1, .int a1)]) hx hb dX5_raise_232 hl (k := 0) rfl rfl (by decide) rfl (fun ls hl => ?_)
            refine lv_goto (tgt := 158) hx hb dX5_raise_235 (by decide) ?_
            exact ih _ _ _ _ hp he _ _ hP hD hS _ (lv_sub hl [0, 1, 2, 3, 4] rfl)
  exact loop24 302 (j20_4 + 1) j20_md j20_mz mi hpL24 hL24 _ _ hP hD hS _ (lv_sub hl [0, 1, 2, 3, 4] rfl)
