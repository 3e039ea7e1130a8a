set_option maxHeartbeats 4000000 in
set_option maxRecDepth 100000 in
theorem c_X5_raise_l10 {l : Launch}  {D : va_G} {cI : ClassId} {m0 m1 m2 m3 m4 m5 m6 m7 m8 m9 m10 m11 : Nat} {mr : Int32} {mc : Int32} {me : Int32} {mw : Int32} {mh : Int32} {mn : AA} {mu : AA} {ms : AA} {mt : AA} {md : AA} {mz : AA} {mi : AA} {mk : AA} {mo : AA} {mj : AA} {ml : AA} {a1 : Int32} {p : Program} {e : Env} {s : State} {m : MethodId} {below : List Frame} {meth : Method} {c : Code} {s₁ : State} (B : BodyLoose p l yX5_raise (headSpec wsX5_raise rm_X5_raise) cX5_raise 6 (some .int) e s m ([.ref m0, .int a1] : List Value).toArray below meth c s₁) (hml : c.maxLocals = 6) (hK : va_K D vwCl [(cI, .int)] s) (hN : NB s) {A : Nat → Prop} (hA : ∀ q : Nat, s.heap.size ≤ q → A q) (u7_0 : Int32) (r10_v62_4 : Int32) (r10_v62_5 : Int32) (hp : (((0 ≤ r10_v62_4 → True) ∧ (¬ (0 ≤ r10_v62_4) → (vp_in (mc + 1) 302 ∧ (vp_in (mc + 1) 302 ∧ True)))) ∧ ∀ (j20_4 : Int32) (j20_mc : Int32) (j20_md : AA) (j20_mz : AA), (if 0 ≤ r10_v62_4 then (r10_v62_4, mc, md, mz) else ((mc + 1), (mc + 1), (upd md ((mc + 1)).toNatClampNeg 0), (upd mz ((mc + 1)).toNatClampNeg 1))) = (j20_4, j20_mc, j20_md, j20_mz) → (p_X5_raise_L158 mr mu a1 j20_4 j20_mc 302 (j20_4 + 1) j20_md j20_mz mi ∧ ∀ (r24_v158_5 : Int32) (r24_md_158 : AA) (r24_mz_158 : AA) (r24_mi_158 : AA), f_X5_raise_L158 mr mu a1 j20_4 j20_mc 302 (j20_4 + 1) j20_md j20_mz mi = (r24_v158_5, r24_md_158, r24_mz_158, r24_mi_158) → (vp_in j20_4 302 ∧ (vp_in j20_4 302 ∧ (p_X5_raise_L254 a1 j20_4 r24_md_158 15 (0 : Int32) mt ∧ ∀ (r38_v254_5 : Int32) (r38_mt_254 : AA), f_X5_raise_L254 a1 j20_4 r24_md_158 15 (0 : Int32) mt = (r38_v254_5, r38_mt_254) → (vp_in a1 14 ∧ (p_X5_notes me ∧ ∀ (u47_0 : Int32) (u47_1 : AA) (u47_2 : AA) (u47_3 : AA) (u47_4 : AA), f_X5_notes me mw mk mo mj ml (0 : Int32) a1 ((-1) : Int32) = (u47_0, u47_1, u47_2, u47_3, u47_4) → True)))))))) (he : f_X5_raise mr mc me mw mu ms mt md mz mi mk mo mj ml a1 = (match (if 0 ≤ r10_v62_4 then (r10_v62_4, mc, md, mz) else ((mc + 1), (mc + 1), (upd md ((mc + 1)).toNatClampNeg 0), (upd mz ((mc + 1)).toNatClampNeg 1))) with | (j20_4, j20_mc, j20_md, j20_mz) => (match f_X5_raise_L158 mr mu a1 j20_4 j20_mc 302 (j20_4 + 1) j20_md j20_mz mi with | (r24_v158_5, r24_md_158, r24_mz_158, r24_mi_158) => (match f_X5_raise_L254 a1 j20_4 r24_md_158 15 (0 : Int32) mt with | (r38_v254_5, r38_mt_254) => (match f_X5_notes me mw mk mo mj ml (0 : Int32) a1 ((-1) : Int32) with | (u47_0, u47_1, u47_2, u47_3, u47_4) => (j20_4, (mr ||| (1 <<< (a1 &&& 31))), j20_mc, u47_0, u7_0, (upd ms (a1).toNatClampNeg mw), r38_mt_254, (upd r24_md_158 (j20_4).toNatClampNeg ((r24_md_158 (j20_4).toNatClampNeg) ||| (1 <<< (a1 &&& 31)))), r24_mz_158, r24_mi_158, u47_1, u47_2, u47_3, u47_4)))))) : ∀ (n : Nat) (v62_4 : Int32) (v62_5 : Int32), p_X5_raise_L62 mr mu mt a1 n v62_4 v62_5 → (r10_v62_4, r10_v62_5) = f_X5_raise_L62 mr mu mt a1 n v62_4 v62_5 → ∀ (H : Heap) (locs : List Loc), va_P D vwCl (W_X5 cI m0 m1 m2 m3 m4 m5 m6 m7 m8 m9 m10 m11 mr mc me mw u7_0 mn mu ms mt md mz mi mk mo mj ml) H → va_D A (W_X5 cI m0 m1 m2 m3 m4 m5 m6 m7 m8 m9 m10 m11 mr mc me mw u7_0 mn mu ms mt md mz mi mk mo mj ml) → va_S A s.heap H locs → ∀ ls : Array Slot, lv_has ls 6 [(5, .int v62_5), (4, .int v62_4), (3, .int ((f_X5_kin mu a1) &&& mr)), (0, .ref m0), (1, .int a1)] → W p l e (headSpec wsX5_raise rm_X5_raise).room s m ([.ref m0, .int a1] : List Value).toArray below meth c H locs 0 0 (MQ below (Q_X5_raise D cI m0 m1 m2 m3 m4 m5 m6 m7 m8 m9 m10 m11 mr mc me mw mh mn mu ms mt md mz mi mk mo mj ml a1 A) ([.ref m0, .int a1] : List Value).toArray s 0 0 A) (F0 m 62 ls []) := by
  have hx := B.exec
  have hb := B.bytes
  have hr := B.returns
  have hts := atoms_spec (ws := wsX5_raise) B.pre
  have hown : s.vm.findClass RX5 = some m.cls := findClass_of_methodNamed B.named
  have hlocks := B.notSynchronized
  have kont10 : ∀ (x10_v62_4 : Int32) (x10_v62_5 : Int32), (r10_v62_4, r10_v62_5) = (x10_v62_4, x10_v62_5) → ∀ (H : Heap) (locs : List Loc), va_P D vwCl (W_X5 cI m0 m1 m2 m3 m4 m5 m6 m7 m8 m9 m10 m11 mr mc me mw u7_0 mn mu ms mt md mz mi mk mo mj ml) H → va_D A (W_X5 cI m0 m1 m2 m3 m4 m5 m6 m7 m8 m9 m10 m11 mr mc me mw u7_0 mn mu ms mt md mz mi mk mo mj ml) → va_S A s.heap H locs → ∀ ls : Array Slot, lv_has ls 6 [(4, .int x10_v62_4), (3, .int ((f_X5_kin mu a1) &&& mr)), (0, .ref m0), (1, .int a1)] → W p l e (headSpec wsX5_raise rm_X5_raise).room s m ([.ref m0, .int a1] : List Value).toArray below meth c H locs 0 0 (MQ below (Q_X5_raise D cI m0 m1 m2 m3 m4 m5 m6 m7 m8 m9 m10 m11 mr mc me mw mh mn mu ms mt md mz mi mk mo mj ml a1 A) ([.ref m0, .int a1] : List Value).toArray s 0 0 A) (F0 m 115 ls []) := by
    intro x10_v62_4 x10_v62_5 hxe H locs hP hD hS ls hl
    simp only [Prod.mk.injEq] at hxe
    obtain ⟨rfl, rfl⟩ := hxe
    exact c_X5_raise_k10 B hml hK hN hA u7_0 r10_v62_4 hp he H locs hP hD hS ls hl
  intro n
  induction n with
  | zero => exact fun _ _ hp => hp.elim
  | succ n ih =>
    intro v62_4 v62_5 hp he H locs hP hD hS ls hl
    replace hp := Eq.mp (p_X5_raise_L62.eq_2 ..) hp
    replace he := he.trans (f_X5_raise_L62.eq_2 ..)
    refine lv_iload hx hb dX5_raise_62 (lv_at hl 0 rfl) ?_
    refine lv_bipush (v := 14) hx hb dX5_raise_64 (by decide) ?_
    refine lv_icmp_ge (tgt := 115) hx hb dX5_raise_66 (by decide) (fun c11 => ?_) (fun c11 => ?_)
    · replace hp := hp.1 c11
      replace he := he.trans (if_pos c11)
      exact kont10 _ _ he _ _ hP hD hS _ (lv_sub hl [1, 2, 3, 4] rfl)
    · replace hp := hp.2 c11
      replace he := he.trans (if_neg c11)
      refine lv_iload_n hx hb dX5_raise_69 rfl (lv_at hl 2 rfl) ?_
      refine lv_iload hx hb dX5_raise_70 (lv_at hl 0 rfl) ?_
      refine k_calli (S := Unit) (wc := ([] : va_W)) (wr := (W_X5 cI m0 m1 m2 m3 m4 m5 m6 m7 m8 m9 m10 m11 mr mc me mw u7_0 mn mu ms mt md mz mi mk mo mj ml)) (w1 := fun u => ([] : va_W)) (fun u => (W_X5 cI m0 m1 m2 m3 m4 m5 m6 m7 m8 m9 m10 m11 mr mc me mw u7_0 mn mu ms mt md mz mi mk mo mj ml)) hP hK hD hN hS hA [] [0, 1, 2, 3, 4, 5, 6, 7, 8, 9, 10, 11] rfl rfl (by decide) (by decide) (by decide) [0, 1, 2, 3, 4, 5, 6, 7, 8, 9, 10, 11] (by decide) (fun _ => rfl) (fun hg => va_runS (As := [.int ((f_X5_kin mu a1) &&& mr), .int v62_5]) (rest := []) ⟨hx, hb, hml, hown, hts⟩ (c_X5_has l D cI _ ((f_X5_kin mu a1) &&& mr) v62_5) (va_cwS 2 hts gX5_raise_X5_has rfl rfl rfl (by decide +kernel) ⟨Nat.le_of_ble_eq_true rfl, Nat.le_of_ble_eq_true rfl⟩) ⟨PW.blind, fun U hU hW => ⟨rfl, hg U hU hW⟩⟩ rfl rfl hl.1 rfl (lv_room (Nat.le_of_ble_eq_true rfl)) dX5_raise_72 ⟨Nat.le_of_ble_eq_true rfl, Nat.le_of_ble_eq_true rfl⟩) (fun r12 u H locs hw hP hD hS => ?_)
      obtain ⟨hw, hb12⟩ := hw
      subst hw
      obtain ⟨j13, hJ13⟩ : ∃ z : Int32, z = (if (f_X5_has ((f_X5_kin mu a1) &&& mr) v62_5) = 0 then v62_4 else (if v62_4 < 0 then (mt (v62_5).toNatClampNeg) else (if v62_4 ≤ (mt (v62_5).toNatClampNeg) then v62_4 else (mt (v62_5).toNatClampNeg)))) := ⟨_, rfl⟩
      rw [← hJ13] at he
      try dsimp only at he
      have hpJ13 := hp.1
      replace hp := hp.2 _  hJ13.symm
      have kont13 : ∀ (H : Heap) (locs : List Loc), va_P D vwCl (W_X5 cI m0 m1 m2 m3 m4 m5 m6 m7 m8 m9 m10 m11 mr mc me mw u7_0 mn mu ms mt md mz mi mk mo mj ml) H → va_D A (W_X5 cI m0 m1 m2 m3 m4 m5 m6 m7 m8 m9 m10 m11 mr mc me mw u7_0 mn mu ms mt md mz mi mk mo mj ml) → va_S A s.heap H locs → ∀ ls : Array Slot, lv_has ls 6 [(5, .int v62_5), (3, .int ((f_X5_kin mu a1) &&& mr)), (0, .ref m0), (1, .int a1)] → W p l e (headSpec wsX5_raise rm_X5_raise).room s m ([.ref m0, .int a1] : List Value).toArray below meth c H locs 0 0 (MQ below (Q_X5_raise D cI m0 m1 m2 m3 m4 m5 m6 m7 m8 m9 m10 m11 mr mc me mw mh mn mu ms mt md mz mi mk mo mj ml a1 A) ([.ref m0, .int a1] : List Value).toArray s 0 0 A) (F0 m 107 ls [.int j13]) := by
        intro H locs hP hD hS ls hl
        refine lv_istore (lv' := [(4, .int j13), (5, .int v62_5), (3, .int ((f_X5_kin mu a1) &&& mr)), (0, .ref m0), (1, .int a1)]) hx hb dX5_raise_107 hl (by decide) rfl (fun ls hl => ?_)
        refine lv_iinc (v := (v62_5 + 1)) (lv' := [(5, .int (v62_5 + 1)), (4, .int j13), (3, .int ((f_X5_kin mu a1) &&& mr)), (0, .ref m0), (1, .int a1)]) hx hb dX5_raise_109 hl (k := 1) rfl rfl (by decide) rfl (fun ls hl => ?_)
        refine lv_goto (tgt := 62) hx hb dX5_raise_112 (by decide) ?_
        exact ih _ _ hp he _ _ hP hD hS _ (lv_sub hl [0, 1, 2, 3, 4] rfl)
      replace he := hJ13
      replace hp := hpJ13
      refine lv_if_eq (tgt := 105) hx hb dX5_raise_75 (by decide) (fun c14 => ?_) (fun c14 => ?_)
      · replace hp := hp.1 c14
        replace he := he.trans (if_pos c14)
        refine lv_iload hx hb dX5_raise_105 (lv_at hl 1 rfl) ?_
        subst he
        exact kont13 _ _ hP hD hS _ (lv_sub hl [0, 2, 3, 4] rfl)
      · replace hp := hp.2 c14
        replace he := he.trans (if_neg c14)
        refine lv_iload hx hb dX5_raise_78 (lv_at hl 1 rfl) ?_
        refine lv_if_lt (tgt := 95) hx hb dX5_raise_80 (by decide) (fun c15 => ?_) (fun c15 => ?_)
        · replace hp := hp.1 c15
          replace he := he.trans (if_pos c15)
          refine lv_aload_n hx hb dX5_raise_95 rfl (lv_at hl 3 rfl) ?_
          refine va_get (D := D) (ci := 5) (v := .ref m4) (C := RX5) (T := TX5) (N := 16) hx hb hts (by decide +kernel) hown hK hP 0 rfl rfl 4 (by decide) (hts (.fieldLink RX5 19 "AlarmgroveModel" "ticket" "[I") (by decide +kernel)) (fun _ h9 => h9) rfl dX5_raise_96 ?_
          refine lv_iload hx hb dX5_raise_99 (lv_at hl 0 rfl) ?_
          have h16 := hp.1
          replace hp := hp.2
          refine va_iald hx hb hK hP 4 0 rfl rfl h16 dX5_raise_101 ?_
          refine lv_goto (tgt := 107) hx hb dX5_raise_102 (by decide) ?_
          subst he
          exact kont13 _ _ hP hD hS _ (lv_sub hl [0, 2, 3, 4] rfl)
        · replace hp := hp.2 c15
          replace he := he.trans (if_neg c15)
          refine lv_aload_n hx hb dX5_raise_83 rfl (lv_at hl 3 rfl) ?_
          refine va_get (D := D) (ci := 5) (v := .ref m4) (C := RX5) (T := TX5) (N := 16) hx hb hts (by decide +kernel) hown hK hP 0 rfl rfl 4 (by decide) (hts (.fieldLink RX5 19 "AlarmgroveModel" "ticket" "[I") (by decide +kernel)) (fun _ h9 => h9) rfl dX5_raise_84 ?_
          refine lv_iload hx hb dX5_raise_87 (lv_at hl 0 rfl) ?_
          have h17 := hp.1
          replace hp := hp.2
          refine va_iald hx hb hK hP 4 0 rfl rfl h17 dX5_raise_89 ?_
          refine lv_iload hx hb dX5_raise_90 (lv_at hl 1 rfl) ?_
          refine lv_icmp_ge (tgt := 105) hx hb dX5_raise_92 (by decide) (fun c18 => ?_) (fun c18 => ?_)
          · replace hp := hp.1 c18
            replace he := he.trans (if_pos c18)
            refine lv_iload hx hb dX5_raise_105 (lv_at hl 1 rfl) ?_
            subst he
            exact kont13 _ _ hP hD hS _ (lv_sub hl [0, 2, 3, 4] rfl)
          · replace hp := hp.2 c18
            replace he := he.trans (if_neg c18)
            refine lv_aload_n hx hb dX5_raise_95 rfl (lv_at hl 3 rfl) ?_
            refine va_get (D := D) (ci := 5) (v := .ref m4) (C := RX5) (T := TX5) (N := 16) hx hb hts (by decide +kernel) hown hK hP 0 rfl rfl 4 (by decide) (hts (.fieldLink RX5 19 "AlarmgroveModel" "ticket" "[I") (by decide +kernel)) (fun _ h9 => h9) rfl dX5_raise_96 ?_
            refine lv_iload hx hb dX5_raise_99 (lv_at hl 0 rfl) ?_
            have h19 := hp.1
            replace hp := hp.2
            refine va_iald hx hb hK hP 4 0 rfl rfl h19 dX5_raise_101 ?_
            refine lv_goto (tgt := 107) hx hb dX5_raise_102 (by decide) ?_
            subst he
            exact kont13 _ _ hP hD hS _ (lv_sub hl [0, 2, 3, 4] rfl)
