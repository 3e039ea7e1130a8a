set_option maxHeartbeats 4000000 in
set_option maxRecDepth 100000 in
theorem c_X5_raise (l : Launch)  (D : va_G) (cI : ClassId) (m0 m1 m2 m3 m4 m5 m6 m7 m8 m9 m10 m11 : Nat) (mr : Int32) (mc : Int32) (me : Int32) (mw : Int32) (mh : Int32) (mn : AA) (mu : AA) (ms : AA) (mt : AA) (md : AA) (mz : AA) (mi : AA) (mk : AA) (mo : AA) (mj : AA) (ml : AA) (sz : Nat) (a1 : Int32) (hp : p_X5_raise mr mc me mw mu mt md mz mi mk mo mj ml a1) : Met l yX5_raise wsX5_raise rm_X5_raise (va_Pc [.ref m0, .int a1] (PW D [(cI, .int)] sz (W_X5 cI m0 m1 m2 m3 m4 m5 m6 m7 m8 m9 m10 m11 mr mc me mw mh mn mu ms mt md mz mi mk mo mj ml))) (Q_X5_raise D cI m0 m1 m2 m3 m4 m5 m6 m7 m8 m9 m10 m11 mr mc me mw mh mn mu ms mt md mz mi mk mo mj ml a1 (va_A (W_X5 cI m0 m1 m2 m3 m4 m5 m6 m7 m8 m9 m10 m11 mr mc me mw mh mn mu ms mt md mz mi mk mo mj ml) sz)) 0 0 (va_A (W_X5 cI m0 m1 m2 m3 m4 m5 m6 m7 m8 m9 m10 m11 mr mc me mw mh mn mu ms mt md mz mi mk mo mj ml) sz) := by
  refine Met.ofW (cc := cX5_raise) (maxL := 6) (ret := (some .int)) (by decide) rfl ?_
  intro p e s m args below meth c s₁ B hml hv
  obtain ⟨rfl, hsz, hP, hK, hD0, hN⟩ := hv
  have hx := B.exec
  have hb := B.bytes
  have hr := B.returns
  have hts := atoms_spec (ws := wsX5_raise) B.pre
  have hown : s.vm.findClass RX5 = some m.cls := findClass_of_methodNamed B.named
  have hlocks := B.notSynchronized
  subst hsz
  have hD := hD0.self (sz := s.heap.size)
  generalize hAe : va_A (W_X5 cI m0 m1 m2 m3 m4 m5 m6 m7 m8 m9 m10 m11 mr mc me mw mh mn mu ms mt md mz mi mk mo mj ml) s.heap.size = A at hD ⊢
  have hA : ∀ q : Nat, s.heap.size ≤ q → A q := fun q h => by rw [← hAe]; exact Or.inr h
  have hS : va_S A s.heap s.heap [] := va_S.rf
  have hl := lv_entry ([.ref m0, .int a1]) (n := 6) (Nat.le_of_ble_eq_true rfl)
  rw [lg_entry_eq]
  generalize (lg_sl ([.ref m0, .int a1]) ++ List.replicate (6 - (lg_sl ([.ref m0, .int a1])).length) Slot.unset).toArray = ls at hl ⊢
  have hl : lv_has ls 6 [(0, .ref m0), (1, .int a1)] := hl
  have he := f_X5_raise.eq_1 mr mc me mw mu ms mt md mz mi mk mo mj ml a1
  replace hp := Eq.mp (p_X5_raise.eq_1 ..) hp
  refine lv_iload_n hx hb dX5_raise_0 rfl (lv_at hl 1 rfl) ?_
  refine k_calli (S := Unit) (wc := ([] : va_W)) (wr := (W_X5 cI m0 m1 m2 m3 m4 m5 m6 m7 m8 m9 m10 m11 mr mc me mw mh mn mu ms mt md mz mi mk mo mj ml)) (w1 := fun u => ([] : va_W)) (fun u => (W_X5 cI m0 m1 m2 m3 m4 m5 m6 m7 m8 m9 m10 m11 mr mc me mw mh mn mu ms mt md mz mi mk mo mj ml)) hP hK hD hN hS hA [] [0, 1, 2, 3, 4, 5, 6, 7, 8, 9, 10, 11] rfl rfl (by decide) (by decide) (by decide) [0, 1, 2, 3, 4, 5, 6, 7, 8, 9, 10, 11] (by decide) (fun _ => rfl) (fun hg => va_runS (As := [.int a1]) (rest := []) ⟨hx, hb, hml, hown, hts⟩ (c_X5_isNode l D cI _ a1) (va_cwS 1 hts gX5_raise_X5_isNode rfl rfl rfl (by decide +kernel) ⟨Nat.le_of_ble_eq_true rfl, Nat.le_of_ble_eq_true rfl⟩) ⟨PW.blind, fun U hU hW => ⟨rfl, hg U hU hW⟩⟩ rfl rfl hl.1 rfl (lv_room (Nat.le_of_ble_eq_true rfl)) dX5_raise_1 ⟨Nat.le_of_ble_eq_true rfl, Nat.le_of_ble_eq_true rfl⟩) (fun r1 u H locs hw hP hD hS => ?_)
  obtain ⟨hw, hb1⟩ := hw
  subst hw
  refine lv_istore_n (lv' := [(2, .int (f_X5_isNode a1)), (0, .ref m0), (1, .int a1)]) hx hb dX5_raise_4 rfl hl (by decide) rfl (fun ls hl => ?_)
  refine lv_aload_n hx hb dX5_raise_5 rfl (lv_at hl 1 rfl) ?_
  refine lv_iload_n hx hb dX5_raise_6 rfl (lv_at hl 0 rfl) ?_
  refine lv_iload_n hx hb dX5_raise_7 rfl (lv_at hl 0 rfl) ?_
  obtain ⟨j2, hJ2⟩ : ∃ z : Int32, z = (if (f_X5_isNode a1) = 0 then (0 : Int32) else (if (f_X5_has mr a1) = 0 then (if 300 ≤ me then (0 : Int32) else (1 : Int32)) else (0 : Int32))) := ⟨_, rfl⟩
  rw [← hJ2] at he
  replace he : f_X5_raise mr mc me mw mu ms mt md mz mi mk mo mj ml a1 = (match f_X5_goes (f_X5_isNode a1) j2 with | (r7, u7_0) => (if r7 = 0 then ((0 : Int32), mr, mc, me, u7_0, ms, mt, md, mz, mi, mk, mo, mj, ml) else (match f_X5_raise_L62 mr mu mt a1 15 ((-1) : Int32) (0 : Int32) with | (r10_v62_4, r10_v62_5) => (match (if 0 ≤ r10_v62_4 then (r10_v62_4, mc, md, mz) else ((mc + 1), (mc + 1), (upd md ((mc + 1)).toNatClampNeg 0), (upd mz ((mc + 1)).toNatClampNeg 1))) with | (j20_4, j20_mc, j20_md, j20_mz) => (match f_X5_raise_L158 mr mu a1 j20_4 j20_mc 302 (j20_4 + 1) j20_md j20_mz mi with | (r24_v158_5, r24_md_158, r24_mz_158, r24_mi_158) => (match f_X5_raise_L254 a1 j20_4 r24_md_158 15 (0 : Int32) mt with | (r38_v254_5, r38_mt_254) => (match f_X5_notes me mw mk mo mj ml (0 : Int32) a1 ((-1) : Int32) with | (u47_0, u47_1, u47_2, u47_3, u47_4) => (j20_4, (mr ||| (1 <<< (a1 &&& 31))), j20_mc, u47_0, u7_0, (upd ms (a1).toNatClampNeg mw), r38_mt_254, (upd r24_md_158 (j20_4).toNatClampNeg ((r24_md_158 (j20_4).toNatClampNeg) ||| (1 <<< (a1 &&& 31)))), r24_mz_158, r24_mi_158, u47_1, u47_2, u47_3, u47_4)))))))) := he
  have hpJ2 := hp.1
  replace hp := hp.2 _  hJ2.symm
  have kont2 : (j2 = 0 ∨ j2 = 1) → ∀ (H : Heap) (locs : List Loc), va_P D vwCl (W_X5 cI m0 m1 m2 m3 m4 m5 m6 m7 m8 m9 m10 m11 mr mc me mw mh mn mu ms mt md mz mi mk mo mj ml) H → va_D A (W_X5 cI m0 m1 m2 m3 m4 m5 m6 m7 m8 m9 m10 m11 mr mc me mw mh mn mu ms mt md mz mi mk mo mj ml) → va_S A s.heap H locs → ∀ ls : Array Slot, lv_has ls 6 [(0, .ref m0), (1, .int a1)] → W p l e (headSpec wsX5_raise rm_X5_raise).room s m ([.ref m0, .int a1] : List Value).toArray below meth c H locs 0 0 (MQ below (Q_X5_raise D cI m0 m1 m2 m3 m4 m5 m6 m7 m8 m9 m10 m11 mr mc me mw mh mn mu ms mt md mz mi mk mo mj ml a1 A) ([.ref m0, .int a1] : List Value).toArray s 0 0 A) (F0 m 37 ls [.int j2, .int (f_X5_isNode a1), .ref m0]) := by
    intro hb2 H locs hP hD hS ls hl
    exact c_X5_raise_k2 B hml hK hN hA j2 hp he H locs hP hD hS ls hl
  replace he := hJ2
  replace hp := hpJ2
  refine lv_if_eq (tgt := 36) hx hb dX5_raise_8 (by decide) (fun c3 => ?_) (fun c3 => ?_)
  · replace hp := hp.1 c3
    replace he := he.trans (if_pos c3)
    refine lv_iconst (v := 0) hx hb dX5_raise_36 (by decide) ?_
    subst he
    exact kont2 (Or.inl rfl) _ _ hP hD hS _ (lv_sub hl [1, 2] rfl)
  · replace hp := hp.2 c3
    replace he := he.trans (if_neg c3)
    refine lv_aload_n hx hb dX5_raise_11 rfl (lv_at hl 1 rfl) ?_
    refine va_get (D := D) (ci := 5) (v := .int mr) (C := RX5) (T := TX5) (N := 16) hx hb hts (by decide +kernel) hown hK hP 0 rfl rfl 2 (by decide) (hts (.fieldLink RX5 68 "AlarmgroveModel" "raised" "I") (by decide +kernel)) (fun _ h9 => h9) rfl dX5_raise_12 ?_
    refine lv_iload_n hx hb dX5_raise_15 rfl (lv_at hl 2 rfl) ?_
    refine k_calli (S := Unit) (wc := ([] : va_W)) (wr := (W_X5 cI m0 m1 m2 m3 m4 m5 m6 m7 m8 m9 m10 m11 mr mc me mw mh mn mu ms mt md mz mi mk mo mj ml)) (w1 := fun u => ([] : va_W)) (fun u => (W_X5 cI m0 m1 m2 m3 m4 m5 m6 m7 m8 m9 m10 m11 mr mc me mw mh mn mu ms mt md mz mi mk mo mj ml)) hP hK hD hN hS hA [] [0, 1, 2, 3, 4, 5, 6, 7, 8, 9, 10, 11] rfl rfl (by decide) (by decide) (by decide) [0, 1, 2, 3, 4, 5, 6, 7, 8, 9, 10, 11] (by decide) (fun _ => rfl) (fun hg => va_runS (As := [.int mr, .int a1]) (rest := [.int (f_X5_isNode a1), .ref m0]) ⟨hx, hb, hml, hown, hts⟩ (c_X5_has l D cI _ mr a1) (va_cwS 2 hts gX5_raise_X5_has rfl rfl rfl (by decide +kernel) ⟨Nat.le_of_ble_eq_true rfl, Nat.le_of_ble_eq_true rfl⟩) ⟨PW.blind, fun U hU hW => ⟨rfl, hg U hU hW⟩⟩ rfl rfl hl.1 rfl (lv_room (Nat.le_of_ble_eq_true rfl)) dX5_raise_16 ⟨Nat.le_of_ble_eq_true rfl, Nat.le_of_ble_eq_true rfl⟩) (fun r4 u H locs hw hP hD hS => ?_)
    obtain ⟨hw, hb4⟩ := hw
    subst hw
    refine lv_if_ne (tgt := 36) hx hb dX5_raise_19 (by decide) (fun c5 => ?_) (fun c5 => ?_)
    · replace hp := hp.2 c5
      replace he := he.trans (if_neg c5)
      refine lv_iconst (v := 0) hx hb dX5_raise_36 (by decide) ?_
      subst he
      exact kont2 (Or.inl rfl) _ _ hP hD hS _ (lv_sub hl [1, 2] rfl)
    · replace hp := hp.1 c5
      replace he := he.trans (if_pos c5)
      refine lv_aload_n hx hb dX5_raise_22 rfl (lv_at hl 1 rfl) ?_
      refine va_get (D := D) (ci := 5) (v := .int me) (C := RX5) (T := TX5) (N := 16) hx hb hts (by decide +kernel) hown hK hP 0 rfl rfl 13 (by decide) (hts (.fieldLink RX5 65 "AlarmgroveModel" "events" "I") (by decide +kernel)) (fun _ h9 => h9) rfl dX5_raise_23 ?_
      refine lv_sipush (v := 300) hx hb dX5_raise_26 (by decide) ?_
      refine lv_icmp_ge (tgt := 36) hx hb dX5_raise_29 (by decide) (fun c6 => ?_) (fun c6 => ?_)
      · replace hp := hp.1 c6
        replace he := he.trans (if_pos c6)
        refine lv_iconst (v := 0) hx hb dX5_raise_36 (by decide) ?_
        subst he
        exact kont2 (Or.inl rfl) _ _ hP hD hS _ (lv_sub hl [1, 2] rfl)
      · replace hp := hp.2 c6
        replace he := he.trans (if_neg c6)
        refine lv_iconst (v := 1) hx hb dX5_raise_32 (by decide) ?_
        refine lv_goto (tgt := 37) hx hb dX5_raise_33 (by decide) ?_
        subst he
        exact kont2 (Or.inr rfl) _ _ hP hD hS _ (lv_sub hl [1, 2] rfl)

