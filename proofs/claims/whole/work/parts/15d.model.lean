abbrev rm_X5_clear : Room := { frames := 1, cells := 0, slots := 0, locals := 23 }
abbrev Q_X5_clear (D : va_G) (cI : ClassId) (m0 m1 m2 m3 m4 m5 m6 m7 m8 m9 m10 m11 : Nat) (mr : Int32) (mc : Int32) (me : Int32) (mw : Int32) (mh : Int32) (mn : AA) (mu : AA) (ms : AA) (mt : AA) (md : AA) (mz : AA) (mi : AA) (mk : AA) (mo : AA) (mj : AA) (ml : AA) (a1 : Int32) (A : Nat → Prop) : Array Value → State → Outcome → State → Prop := va_Qi (S := Int32 × Int32 × Int32 × AA × AA × AA × AA × AA × AA) (fun r u => f_X5_clear mr me mw ms mt md mz mk mo mj ml a1 = (r, u)) (fun u t => QW D [(cI, .int)] A (W_X5 cI m0 m1 m2 m3 m4 m5 m6 m7 m8 m9 m10 m11 u.1 mc u.2.1 mw u.2.2.1 mn mu ms mt u.2.2.2.1 u.2.2.2.2.1 mi u.2.2.2.2.2.1 u.2.2.2.2.2.2.1 u.2.2.2.2.2.2.2.1 u.2.2.2.2.2.2.2.2) t) A
set_option maxHeartbeats 4000000 in
set_option maxRecDepth 100000 in
theorem c_X5_clear (l : Launch)  (D : va_G) (cI : ClassId) (m0 m1 m2 m3 m4 m5 m6 m7 m8 m9 m10 m11 : Nat) (mr : Int32) (mc : Int32) (me : Int32) (mw : Int32) (mh : Int32) (mn : AA) (mu : AA) (ms : AA) (mt : AA) (md : AA) (mz : AA) (mi : AA) (mk : AA) (mo : AA) (mj : AA) (ml : AA) (sz : Nat) (a1 : Int32) (hp : p_X5_clear mr me mw ms mt md mk mo mj ml a1) : Met l yX5_clear wsX5_clear rm_X5_clear (va_Pc [.ref m0, .int a1] (PW D [(cI, .int)] sz (W_X5 cI m0 m1 m2 m3 m4 m5 m6 m7 m8 m9 m10 m11 mr mc me mw mh mn mu ms mt md mz mi mk mo mj ml))) (Q_X5_clear D cI m0 m1 m2 m3 m4 m5 m6 m7 m8 m9 m10 m11 mr mc me mw mh mn mu ms mt md mz mi mk mo mj ml a1 (va_A (W_X5 cI m0 m1 m2 m3 m4 m5 m6 m7 m8 m9 m10 m11 mr mc me mw mh mn mu ms mt md mz mi mk mo mj ml) sz)) 0 0 (va_A (W_X5 cI m0 m1 m2 m3 m4 m5 m6 m7 m8 m9 m10 m11 mr mc me mw mh mn mu ms mt md mz mi mk mo mj ml) sz) := by
  refine Met.ofW (cc := cX5_clear) (maxL := 4) (ret := (some .int)) (by decide) rfl ?_
  intro p e s m args below meth c s₁ B hml hv
  obtain ⟨rfl, hsz, hP, hK, hD0, hN⟩ := hv
  have hx := B.exec
  have hb := B.bytes
  have hr := B.returns
  have hts := atoms_spec (ws := wsX5_clear) B.pre
  have hown : s.vm.findClass RX5 = some m.cls := findClass_of_methodNamed B.named
  have hlocks := B.notSynchronized
  subst hsz
  have hD := hD0.self (sz := s.heap.size)
  generalize hAe : va_A (W_X5 cI m0 m1 m2 m3 m4 m5 m6 m7 m8 m9 m10 m11 mr mc me mw mh mn mu ms mt md mz mi mk mo mj ml) s.heap.size = A at hD ⊢
  have hA : ∀ q : Nat, s.heap.size ≤ q → A q := fun q h => by rw [← hAe]; exact Or.inr h
  have hS : va_S A s.heap s.heap [] := va_S.rf
  have hl := lv_entry ([.ref m0, .int a1]) (n := 4) (Nat.le_of_ble_eq_true rfl)
  rw [lg_entry_eq]
  generalize (lg_sl ([.ref m0, .int a1]) ++ List.replicate (4 - (lg_sl ([.ref m0, .int a1])).length) Slot.unset).toArray = ls at hl ⊢
  have hl : lv_has ls 4 [(0, .ref m0), (1, .int a1)] := hl
  have he := f_X5_clear.eq_1 mr me mw ms mt md mz mk mo mj ml a1
  replace hp := Eq.mp (p_X5_clear.eq_1 ..) hp
  refine lv_iload_n hx hb dX5_clear_0 rfl (lv_at hl 1 rfl) ?_
  refine k_calli (S := Unit) (wc := ([] : va_W)) (wr := (W_X5 cI m0 m1 m2 m3 m4 m5 m6 m7 m8 m9 m10 m11 mr mc me mw mh mn mu ms mt md mz mi mk mo mj ml)) (w1 := fun u => ([] : va_W)) (fun u => (W_X5 cI m0 m1 m2 m3 m4 m5 m6 m7 m8 m9 m10 m11 mr mc me mw mh mn mu ms mt md mz mi mk mo mj ml)) hP hK hD hN hS hA [] [0, 1, 2, 3, 4, 5, 6, 7, 8, 9, 10, 11] rfl rfl (by decide) (by decide) (by decide) [0, 1, 2, 3, 4, 5, 6, 7, 8, 9, 10, 11] (by decide) (fun _ => rfl) (fun hg => va_runS (As := [.int a1]) (rest := []) ⟨hx, hb, hml, hown, hts⟩ (c_X5_isNode l D cI _ a1) (va_cwS 1 hts gX5_clear_X5_isNode rfl rfl rfl (by decide +kernel) ⟨Nat.le_of_ble_eq_true rfl, Nat.le_of_ble_eq_true rfl⟩) ⟨PW.blind, fun U hU hW => ⟨rfl, hg U hU hW⟩⟩ rfl rfl hl.1 rfl (lv_room (Nat.le_of_ble_eq_true rfl)) dX5_clear_1 ⟨Nat.le_of_ble_eq_true rfl, Nat.le_of_ble_eq_true rfl⟩) (fun r1 u H locs hw hP hD hS => ?_)
  obtain ⟨hw, hb1⟩ := hw
  subst hw
  refine lv_istore_n (lv' := [(2, .int (f_X5_isNode a1)), (0, .ref m0), (1, .int a1)]) hx hb dX5_clear_4 rfl hl (by decide) rfl (fun ls hl => ?_)
  refine lv_aload_n hx hb dX5_clear_5 rfl (lv_at hl 1 rfl) ?_
  refine lv_iload_n hx hb dX5_clear_6 rfl (lv_at hl 0 rfl) ?_
  refine lv_iload_n hx hb dX5_clear_7 rfl (lv_at hl 0 rfl) ?_
  obtain ⟨j2, hJ2⟩ : ∃ z : Int32, z = (if (f_X5_isNode a1) = 0 then (0 : Int32) else (if (f_X5_has mr a1) = 0 then (0 : Int32) else (if 300 ≤ me then (0 : Int32) else (1 : Int32)))) := ⟨_, rfl⟩
  rw [← hJ2] at he
  try dsimp only at he
  have hpJ2 := hp.1
  replace hp := hp.2 _  hJ2.symm
  have kont2 : (j2 = 0 ∨ j2 = 1) → ∀ (H : Heap) (locs : List Loc), va_P D vwCl (W_X5 cI m0 m1 m2 m3 m4 m5 m6 m7 m8 m9 m10 m11 mr mc me mw mh mn mu ms mt md mz mi mk mo mj ml) H → va_D A (W_X5 cI m0 m1 m2 m3 m4 m5 m6 m7 m8 m9 m10 m11 mr mc me mw mh mn mu ms mt md mz mi mk mo mj ml) → va_S A s.heap H locs → ∀ ls : Array Slot, lv_has ls 4 [(0, .ref m0), (1, .int a1)] → W p l e (headSpec wsX5_clear rm_X5_clear).room s m ([.ref m0, .int a1] : List Value).toArray below meth c H locs 0 0 (MQ below (Q_X5_clear D cI m0 m1 m2 m3 m4 m5 m6 m7 m8 m9 m10 m11 mr mc me mw mh mn mu ms mt md mz mi mk mo mj ml a1 A) ([.ref m0, .int a1] : List Value).toArray s 0 0 A) (F0 m 37 ls [.int j2, .int (f_X5_isNode a1), .ref m0]) := by
    intro hb2 H locs hP hD hS ls hl
    refine k_calli (S := Int32) (wc := (W_X5 cI m0 m1 m2 m3 m4 m5 m6 m7 m8 m9 m10 m11 mr mc me mw mh mn mu ms mt md mz mi mk mo mj ml)) (wr := ([] : va_W)) (w1 := fun u => (W_X5 cI m0 m1 m2 m3 m4 m5 m6 m7 m8 m9 m10 m11 mr mc me mw u mn mu ms mt md mz mi mk mo mj ml)) (fun u => (W_X5 cI m0 m1 m2 m3 m4 m5 m6 m7 m8 m9 m10 m11 mr mc me mw u mn mu ms mt md mz mi mk mo mj ml)) hP hK hD hN hS hA [0, 1, 2, 3, 4, 5, 6, 7, 8, 9, 10, 11] [] rfl rfl (by decide) (by decide) (by decide) [0, 1, 2, 3, 4, 5, 6, 7, 8, 9, 10, 11] (by decide) (fun _ => rfl) (fun hg => va_runV (As := [.int (f_X5_isNode a1), .int j2]) (rest := []) ⟨hx, hb, hml, hown, hts⟩ (c_X5_goes l D cI m0 m1 m2 m3 m4 m5 m6 m7 m8 m9 m10 m11 mr mc me mw mh mn mu ms mt md mz mi mk mo mj ml _ (f_X5_isNode a1) j2) (cwV 2 hts gX5_clear_X5_goes rfl rfl rfl (by decide +kernel) ⟨Nat.le_of_ble_eq_true rfl, Nat.le_of_ble_eq_true rfl⟩) ⟨PW.blind, va_recv hK hP (ci := 5) (q0 := 0) rfl rfl, fun U hU hW => ⟨rfl, hg U hU hW⟩⟩ rfl rfl hl.1 rfl (lv_room (Nat.le_of_ble_eq_true rfl)) dX5_clear_37 ⟨Nat.le_of_ble_eq_true rfl, Nat.le_of_ble_eq_true rfl⟩) (fun r7 u H locs hw hP hD hS => ?_)
    obtain ⟨u7_0, rfl⟩ : ∃ z, z = u := ⟨_, rfl⟩
    obtain ⟨hw, hb7⟩ := hw
    rw [hw] at he
    try dsimp only at he
    replace hp := hp r7 u7_0 hw
    have hP : va_P D vwCl (W_X5 cI m0 m1 m2 m3 m4 m5 m6 m7 m8 m9 m10 m11 mr mc me mw u7_0 mn mu ms mt md mz mi mk mo mj ml) H := hP
    have hD : va_D A (W_X5 cI m0 m1 m2 m3 m4 m5 m6 m7 m8 m9 m10 m11 mr mc me mw u7_0 mn mu ms mt md mz mi mk mo mj ml) := hD
    refine lv_if_ne (tgt := 45) hx hb dX5_clear_40 (by decide) (fun c8 => ?_) (fun c8 => ?_)
    · replace hp := hp.2 c8
      replace he := he.trans (if_neg c8)
      refine lv_aload_n hx hb dX5_clear_45 rfl (lv_at hl 0 rfl) ?_
      refine va_get (D := D) (ci := 5) (v := .ref m4) (C := RX5) (T := TX5) (N := 16) hx hb hts (by decide +kernel) hown hK hP 0 rfl rfl 4 (by decide) (hts (.fieldLink RX5 19 "AlarmgroveModel" "ticket" "[I") (by decide +kernel)) (fun _ h9 => h9) rfl dX5_clear_46 ?_
      refine lv_iload_n hx hb dX5_clear_49 rfl (lv_at hl 1 rfl) ?_
      have h9 := hp.1
      replace hp := hp.2
      refine va_iald hx hb hK hP 4 0 rfl rfl h9 dX5_clear_50 ?_
      refine lv_istore_n (lv' := [(3, .int (mt (a1).toNatClampNeg)), (0, .ref m0), (1, .int a1)]) hx hb dX5_clear_51 rfl hl (by decide) rfl (fun ls hl => ?_)
      refine lv_aload_n hx hb dX5_clear_52 rfl (lv_at hl 1 rfl) ?_
      refine va_get (D := D) (ci := 5) (v := .ref m5) (C := RX5) (T := TX5) (N := 16) hx hb hts (by decide +kernel) hown hK hP 0 rfl rfl 5 (by decide) (hts (.fieldLink RX5 22 "AlarmgroveModel" "nodes" "[I") (by decide +kernel)) (fun _ h9 => h9) rfl dX5_clear_53 ?_
      refine lv_iload_n hx hb dX5_clear_56 rfl (lv_at hl 0 rfl) ?_
      refine lv_dup2_11 hx hb dX5_clear_57 rfl rfl ?_
      have h10 := hp.1
      replace hp := hp.2
      refine va_iald hx hb hK hP 5 0 rfl rfl h10 dX5_clear_58 ?_
      refine lv_iconst (v := 1) hx hb dX5_clear_59 (by decide) ?_
      refine lv_iload_n hx hb dX5_clear_60 rfl (lv_at hl 2 rfl) ?_
      refine lv_ishl hx hb dX5_clear_61 ?_
      refine lv_iconst (v := (-1)) hx hb dX5_clear_62 (by decide) ?_
      refine lv_ixor hx hb dX5_clear_63 ?_
      refine lv_iand hx hb dX5_clear_64 ?_
      have h11 := hp.1
      replace hp := hp.2
      refine va_iast hx hb hK hP hD hS 5 0 rfl rfl h11 dX5_clear_65 (fun H locs hP hD hS => ?_)
      have hP : va_P D vwCl (W_X5 cI m0 m1 m2 m3 m4 m5 m6 m7 m8 m9 m10 m11 mr mc me mw u7_0 mn mu ms mt (upd md ((mt (a1).toNatClampNeg)).toNatClampNeg ((md ((mt (a1).toNatClampNeg)).toNatClampNeg) &&& ((1 <<< (a1 &&& 31)) ^^^ (-1)))) mz mi mk mo mj ml) H := hP
      have hD : va_D A (W_X5 cI m0 m1 m2 m3 m4 m5 m6 m7 m8 m9 m10 m11 mr mc me mw u7_0 mn mu ms mt (upd md ((mt (a1).toNatClampNeg)).toNatClampNeg ((md ((mt (a1).toNatClampNeg)).toNatClampNeg) &&& ((1 <<< (a1 &&& 31)) ^^^ (-1)))) mz mi mk mo mj ml) := hD
      refine lv_aload_n hx hb dX5_clear_66 rfl (lv_at hl 1 rfl) ?_
      refine va_get (D := D) (ci := 5) (v := .ref m6) (C := RX5) (T := TX5) (N := 16) hx hb hts (by decide +kernel) hown hK hP 0 rfl rfl 6 (by decide) (hts (.fieldLink RX5 25 "AlarmgroveModel" "states" "[I") (by decide +kernel)) (fun _ h9 => h9) rfl dX5_clear_67 ?_
      refine lv_iload_n hx hb dX5_clear_70 rfl (lv_at hl 0 rfl) ?_
      refine lv_aload_n hx hb dX5_clear_71 rfl (lv_at hl 1 rfl) ?_
      refine va_get (D := D) (ci := 5) (v := .ref m5) (C := RX5) (T := TX5) (N := 16) hx hb hts (by decide +kernel) hown hK hP 0 rfl rfl 5 (by decide) (hts (.fieldLink RX5 22 "AlarmgroveModel" "nodes" "[I") (by decide +kernel)) (fun _ h9 => h9) rfl dX5_clear_72 ?_
      refine lv_iload_n hx hb dX5_clear_75 rfl (lv_at hl 0 rfl) ?_
      have h12 := hp.1
      replace hp := hp.2
      refine va_iald hx hb hK hP 5 0 rfl rfl h12 dX5_clear_76 ?_
      obtain ⟨j13, hJ13⟩ : ∃ z : Int32, z = (if ((upd md ((mt (a1).toNatClampNeg)).toNatClampNeg ((md ((mt (a1).toNatClampNeg)).toNatClampNeg) &&& ((1 <<< (a1 &&& 31)) ^^^ (-1)))) ((mt (a1).toNatClampNeg)).toNatClampNeg) = 0 then (2 : Int32) else (1 : Int32)) := ⟨_, rfl⟩
      rw [← hJ13] at he
      try dsimp only at he
      have hpJ13 := hp.1
      replace hp := hp.2 _  hJ13.symm
      have kont13 : ∀ (H : Heap) (locs : List Loc), va_P D vwCl (W_X5 cI m0 m1 m2 m3 m4 m5 m6 m7 m8 m9 m10 m11 mr mc me mw u7_0 mn mu ms mt (upd md ((mt (a1).toNatClampNeg)).toNatClampNeg ((md ((mt (a1).toNatClampNeg)).toNatClampNeg) &&& ((1 <<< (a1 &&& 31)) ^^^ (-1)))) mz mi mk mo mj ml) H → va_D A (W_X5 cI m0 m1 m2 m3 m4 m5 m6 m7 m8 m9 m10 m11 mr mc me mw u7_0 mn mu ms mt (upd md ((mt (a1).toNatClampNeg)).toNatClampNeg ((md ((mt (a1).toNatClampNeg)).toNatClampNeg) &&& ((1 <<< (a1 &&& 31)) ^^^ (-1)))) mz mi mk mo mj ml) → va_S A s.heap H locs → ∀ ls : Array Slot, lv_has ls 4 [(3, .int (mt (a1).toNatClampNeg)), (0, .ref m0), (1, .int a1)] → W p l e (headSpec wsX5_clear rm_X5_clear).room s m ([.ref m0, .int a1] : List Value).toArray below meth c H locs 0 0 (MQ below (Q_X5_clear D cI m0 m1 m2 m3 m4 m5 m6 m7 m8 m9 m10 m11 mr mc me mw mh mn mu ms mt md mz mi mk mo mj ml a1 A) ([.ref m0, .int a1] : List Value).toArray s 0 0 A) (F0 m 85 ls [.int j13, .int (mt (a1).toNatClampNeg), .ref m6]) := by
        intro H locs hP hD hS ls hl
        have h15 := hp.1
        replace hp := hp.2
        refine va_iast hx hb hK hP hD hS 6 0 rfl rfl h15 dX5_clear_85 (fun H locs hP hD hS => ?_)
        have hP : va_P D vwCl (W_X5 cI m0 m1 m2 m3 m4 m5 m6 m7 m8 m9 m10 m11 mr mc me mw u7_0 mn mu ms mt (upd md ((mt (a1).toNatClampNeg)).toNatClampNeg ((md ((mt (a1).toNatClampNeg)).toNatClampNeg) &&& ((1 <<< (a1 &&& 31)) ^^^ (-1)))) (upd mz ((mt (a1).toNatClampNeg)).toNatClampNeg j13) mi mk mo mj ml) H := hP
        have hD : va_D A (W_X5 cI m0 m1 m2 m3 m4 m5 m6 m7 m8 m9 m10 m11 mr mc me mw u7_0 mn mu ms mt (upd md ((mt (a1).toNatClampNeg)).toNatClampNeg ((md ((mt (a1).toNatClampNeg)).toNatClampNeg) &&& ((1 <<< (a1 &&& 31)) ^^^ (-1)))) (upd mz ((mt (a1).toNatClampNeg)).toNatClampNeg j13) mi mk mo mj ml) := hD
        refine lv_aload_n hx hb dX5_clear_86 rfl (lv_at hl 1 rfl) ?_
        refine lv_dup hx hb dX5_clear_87 rfl ?_
        refine va_get (D := D) (ci := 5) (v := .int mr) (C := RX5) (T := TX5) (N := 16) hx hb hts (by decide +kernel) hown hK hP 0 rfl rfl 2 (by decide) (hts (.fieldLink RX5 68 "AlarmgroveModel" "raised" "I") (by decide +kernel)) (fun _ h9 => h9) rfl dX5_clear_88 ?_
        refine lv_iconst (v := 1) hx hb dX5_clear_91 (by decide) ?_
        refine lv_iload_n hx hb dX5_clear_92 rfl (lv_at hl 2 rfl) ?_
        refine lv_ishl hx hb dX5_clear_93 ?_
        refine lv_iconst (v := (-1)) hx hb dX5_clear_94 (by decide) ?_
        refine lv_ixor hx hb dX5_clear_95 ?_
        refine lv_iand hx hb dX5_clear_96 ?_
        refine va_put (D := D) (ci := 5) (v := .int (mr &&& ((1 <<< (a1 &&& 31)) ^^^ (-1)))) (ty := .int) (C := RX5) (T := TX5) (N := 16) hx hb hts (by decide +kernel) tyX5 tyX5_ok nmX5 hown hK hP hD hS 0 rfl rfl 2 (by decide) (hts (.fieldLink RX5 68 "AlarmgroveModel" "raised" "I") (by decide +kernel)) (fun _ h9 => h9) rfl (by decide +kernel) rfl rfl (Nat.le_of_ble_eq_true rfl) dX5_clear_97 (fun H locs hP hD hS => ?_)
        have hP : va_P D vwCl (W_X5 cI m0 m1 m2 m3 m4 m5 m6 m7 m8 m9 m10 m11 (mr &&& ((1 <<< (a1 &&& 31)) ^^^ (-1))) mc me mw u7_0 mn mu ms mt (upd md ((mt (a1).toNatClampNeg)).toNatClampNeg ((md ((mt (a1).toNatClampNeg)).toNatClampNeg) &&& ((1 <<< (a1 &&& 31)) ^^^ (-1)))) (upd mz ((mt (a1).toNatClampNeg)).toNatClampNeg j13) mi mk mo mj ml) H := hP
        have hD : va_D A (W_X5 cI m0 m1 m2 m3 m4 m5 m6 m7 m8 m9 m10 m11 (mr &&& ((1 <<< (a1 &&& 31)) ^^^ (-1))) mc me mw u7_0 mn mu ms mt (upd md ((mt (a1).toNatClampNeg)).toNatClampNeg ((md ((mt (a1).toNatClampNeg)).toNatClampNeg) &&& ((1 <<< (a1 &&& 31)) ^^^ (-1)))) (upd mz ((mt (a1).toNatClampNeg)).toNatClampNeg j13) mi mk mo mj ml) := hD
        refine lv_aload_n hx hb dX5_clear_100 rfl (lv_at hl 1 rfl) ?_
        refine lv_iconst (v := 1) hx hb dX5_clear_101 (by decide) ?_
        refine lv_iload_n hx hb dX5_clear_102 rfl (lv_at hl 2 rfl) ?_
        refine lv_aload_n hx hb dX5_clear_103 rfl (lv_at hl 1 rfl) ?_
        refine va_get (D := D) (ci := 5) (v := .int mw) (C := RX5) (T := TX5) (N := 16) hx hb hts (by decide +kernel) hown hK hP 0 rfl rfl 14 (by decide) (hts (.fieldLink RX5 62 "AlarmgroveModel" "now" "I") (by decide +kernel)) (fun _ h9 => h9) rfl dX5_clear_104 ?_
        refine lv_aload_n hx hb dX5_clear_107 rfl (lv_at hl 1 rfl) ?_
        refine va_get (D := D) (ci := 5) (v := .ref m3) (C := RX5) (T := TX5) (N := 16) hx hb hts (by decide +kernel) hown hK hP 0 rfl rfl 3 (by decide) (hts (.fieldLink RX5 16 "AlarmgroveModel" "since" "[I") (by decide +kernel)) (fun _ h9 => h9) rfl dX5_clear_108 ?_
        refine lv_iload_n hx hb dX5_clear_111 rfl (lv_at hl 2 rfl) ?_
        have h16 := hp.1
        replace hp := hp.2
        refine va_iald hx hb hK hP 3 0 rfl rfl h16 dX5_clear_112 ?_
        refine lv_isub hx hb dX5_clear_113 ?_
        have hq17 := hp.1
        replace hp := hp.2
        refine k_callv (S := Int32 × AA × AA × AA × AA) (wc := (W_X5 cI m0 m1 m2 m3 m4 m5 m6 m7 m8 m9 m10 m11 (mr &&& ((1 <<< (a1 &&& 31)) ^^^ (-1))) mc me mw u7_0 mn mu ms mt (upd md ((mt (a1).toNatClampNeg)).toNatClampNeg ((md ((mt (a1).toNatClampNeg)).toNatClampNeg) &&& ((1 <<< (a1 &&& 31)) ^^^ (-1)))) (upd mz ((mt (a1).toNatClampNeg)).toNatClampNeg j13) mi mk mo mj ml)) (wr := ([] : va_W)) (w1 := fun u => (W_X5 cI m0 m1 m2 m3 m4 m5 m6 m7 m8 m9 m10 m11 (mr &&& ((1 <<< (a1 &&& 31)) ^^^ (-1))) mc u.1 mw u7_0 mn mu ms mt (upd md ((mt (a1).toNatClampNeg)).toNatClampNeg ((md ((mt (a1).toNatClampNeg)).toNatClampNeg) &&& ((1 <<< (a1 &&& 31)) ^^^ (-1)))) (upd mz ((mt (a1).toNatClampNeg)).toNatClampNeg j13) mi u.2.1 u.2.2.1 u.2.2.2.1 u.2.2.2.2)) (fun u => (W_X5 cI m0 m1 m2 m3 m4 m5 m6 m7 m8 m9 m10 m11 (mr &&& ((1 <<< (a1 &&& 31)) ^^^ (-1))) mc u.1 mw u7_0 mn mu ms mt (upd md ((mt (a1).toNatClampNeg)).toNatClampNeg ((md ((mt (a1).toNatClampNeg)).toNatClampNeg) &&& ((1 <<< (a1 &&& 31)) ^^^ (-1)))) (upd mz ((mt (a1).toNatClampNeg)).toNatClampNeg j13) mi u.2.1 u.2.2.1 u.2.2.2.1 u.2.2.2.2)) hP hK hD hN hS hA [0, 1, 2, 3, 4, 5, 6, 7, 8, 9, 10, 11] [] rfl rfl (by decide) (by decide) (by decide) [0, 1, 2, 3, 4, 5, 6, 7, 8, 9, 10, 11] (by decide) (fun _ => rfl) (fun hg => va_runV (As := [.int 1, .int a1, .int (mw - (ms (a1).toNatClampNeg))]) (rest := []) ⟨hx, hb, hml, hown, hts⟩ (c_X5_notes l D cI m0 m1 m2 m3 m4 m5 m6 m7 m8 m9 m10 m11 (mr &&& ((1 <<< (a1 &&& 31)) ^^^ (-1))) mc me mw u7_0 mn mu ms mt (upd md ((mt (a1).toNatClampNeg)).toNatClampNeg ((md ((mt (a1).toNatClampNeg)).toNatClampNeg) &&& ((1 <<< (a1 &&& 31)) ^^^ (-1)))) (upd mz ((mt (a1).toNatClampNeg)).toNatClampNeg j13) mi mk mo mj ml _ 1 a1 (mw - (ms (a1).toNatClampNeg)) hq17) (cwV 3 hts gX5_clear_X5_notes rfl rfl rfl (by decide +kernel) ⟨Nat.le_of_ble_eq_true rfl, Nat.le_of_ble_eq_true rfl⟩) ⟨PW.blind, va_recv hK hP (ci := 5) (q0 := 0) rfl rfl, fun U hU hW => ⟨rfl, hg U hU hW⟩⟩ rfl rfl hl.1 rfl (lv_room (Nat.le_of_ble_eq_true rfl)) dX5_clear_114 ⟨Nat.le_of_ble_eq_true rfl, Nat.le_of_ble_eq_true rfl⟩) (fun u H locs hw hP hD hS => ?_)
        obtain ⟨u17_0, u17_1, u17_2, u17_3, u17_4⟩ := u
        rw [hw] at he
        try dsimp only at he
        replace hp := hp u17_0 u17_1 u17_2 u17_3 u17_4 hw
        have hP : va_P D vwCl (W_X5 cI m0 m1 m2 m3 m4 m5 m6 m7 m8 m9 m10 m11 (mr &&& ((1 <<< (a1 &&& 31)) ^^^ (-1))) mc u17_0 mw u7_0 mn mu ms mt (upd md ((mt (a1).toNatClampNeg)).toNatClampNeg ((md ((mt (a1).toNatClampNeg)).toNatClampNeg) &&& ((1 <<< (a1 &&& 31)) ^^^ (-1)))) (upd mz ((mt (a1).toNatClampNeg)).toNatClampNeg j13) mi u17_1 u17_2 u17_3 u17_4) H := hP
        have hD : va_D A (W_X5 cI m0 m1 m2 m3 m4 m5 m6 m7 m8 m9 m10 m11 (mr &&& ((1 <<< (a1 &&& 31)) ^^^ (-1))) mc u17_0 mw u7_0 mn mu ms mt (upd md ((mt (a1).toNatClampNeg)).toNatClampNeg ((md ((mt (a1).toNatClampNeg)).toNatClampNeg) &&& ((1 <<< (a1 &&& 31)) ^^^ (-1)))) (upd mz ((mt (a1).toNatClampNeg)).toNatClampNeg j13) mi u17_1 u17_2 u17_3 u17_4) := hD
        refine lv_aload_n hx hb dX5_clear_117 rfl (lv_at hl 1 rfl) ?_
        refine va_get (D := D) (ci := 5) (v := .ref m5) (C := RX5) (T := TX5) (N := 16) hx hb hts (by decide +kernel) hown hK hP 0 rfl rfl 5 (by decide) (hts (.fieldLink RX5 22 "AlarmgroveModel" "nodes" "[I") (by decide +kernel)) (fun _ h9 => h9) rfl dX5_clear_118 ?_
        refine lv_iload_n hx hb dX5_clear_121 rfl (lv_at hl 0 rfl) ?_
        have h18 := hp.1
        replace hp := hp.2
        refine va_iald hx hb hK hP 5 0 rfl rfl h18 dX5_clear_122 ?_
        have hq19 := hp.1
        replace hp := hp.2
        refine k_calli (S := Unit) (wc := ([] : va_W)) (wr := (W_X5 cI m0 m1 m2 m3 m4 m5 m6 m7 m8 m9 m10 m11 (mr &&& ((1 <<< (a1 &&& 31)) ^^^ (-1))) mc u17_0 mw u7_0 mn mu ms mt (upd md ((mt (a1).toNatClampNeg)).toNatClampNeg ((md ((mt (a1).toNatClampNeg)).toNatClampNeg) &&& ((1 <<< (a1 &&& 31)) ^^^ (-1)))) (upd mz ((mt (a1).toNatClampNeg)).toNatClampNeg j13) mi u17_1 u17_2 u17_3 u17_4)) (w1 := fun u => ([] : va_W)) (fun u => (W_X5 cI m0 m1 m2 m3 m4 m5 m6 m7 m8 m9 m10 m11 (mr &&& ((1 <<< (a1 &&& 31)) ^^^ (-1))) mc u17_0 mw u7_0 mn mu ms mt (upd md ((mt (a1).toNatClampNeg)).toNatClampNeg ((md ((mt (a1).toNatClampNeg)).toNatClampNeg) &&& ((1 <<< (a1 &&& 31)) ^^^ (-1)))) (upd mz ((mt (a1).toNatClampNeg)).toNatClampNeg j13) mi u17_1 u17_2 u17_3 u17_4)) hP hK hD hN hS hA [] [0, 1, 2, 3, 4, 5, 6, 7, 8, 9, 10, 11] rfl rfl (by decide) (by decide) (by decide) [0, 1, 2, 3, 4, 5, 6, 7, 8, 9, 10, 11] (by decide) (fun _ => rfl) (fun hg => va_runS (As := [.int ((upd md ((mt (a1).toNatClampNeg)).toNatClampNeg ((md ((mt (a1).toNatClampNeg)).toNatClampNeg) &&& ((1 <<< (a1 &&& 31)) ^^^ (-1)))) ((mt (a1).toNatClampNeg)).toNatClampNeg)]) (rest := []) ⟨hx, hb, hml, hown, hts⟩ (c_X5_count l D cI _ ((upd md ((mt (a1).toNatClampNeg)).toNatClampNeg ((md ((mt (a1).toNatClampNeg)).toNatClampNeg) &&& ((1 <<< (a1 &&& 31)) ^^^ (-1)))) ((mt (a1).toNatClampNeg)).toNatClampNeg) hq19) (va_cwS 1 hts gX5_clear_X5_count rfl rfl rfl (by decide +kernel) ⟨Nat.le_of_ble_eq_true rfl, Nat.le_of_ble_eq_true rfl⟩) ⟨PW.blind, fun U hU hW => ⟨rfl, hg U hU hW⟩⟩ rfl rfl hl.1 rfl (lv_room (Nat.le_of_ble_eq_true rfl)) dX5_clear_123 ⟨Nat.le_of_ble_eq_true rfl, Nat.le_of_ble_eq_true rfl⟩) (fun r19 u H locs hw hP hD hS => ?_)
        subst hw
        exact W.iret (v := (f_X5_count ((upd md ((mt (a1).toNatClampNeg)).toNatClampNeg ((md ((mt (a1).toNatClampNeg)).toNatClampNeg) &&& ((1 <<< (a1 &&& 31)) ^^^ (-1)))) ((mt (a1).toNatClampNeg)).toNatClampNeg))) hx hb hr (fun t ht hW => ⟨⟨(f_X5_count ((upd md ((mt (a1).toNatClampNeg)).toNatClampNeg ((md ((mt (a1).toNatClampNeg)).toNatClampNeg) &&& ((1 <<< (a1 &&& 31)) ^^^ (-1)))) ((mt (a1).toNatClampNeg)).toNatClampNeg)), ((mr &&& ((1 <<< (a1 &&& 31)) ^^^ (-1))), u17_0, u7_0, (upd md ((mt (a1).toNatClampNeg)).toNatClampNeg ((md ((mt (a1).toNatClampNeg)).toNatClampNeg) &&& ((1 <<< (a1 &&& 31)) ^^^ (-1)))), (upd mz ((mt (a1).toNatClampNeg)).toNatClampNeg j13), u17_1, u17_2, u17_3, u17_4), rfl, he, by rw [ht]; exact hP, va_K.moved hW.alike hK, hD⟩, hS.F ht⟩) hS.2.2 dX5_clear_126
      replace he := hJ13
      replace hp := hpJ13
      refine lv_if_ne (tgt := 84) hx hb dX5_clear_77 (by decide) (fun c14 => ?_) (fun c14 => ?_)
      · replace hp := hp.2 c14
        replace he := he.trans (if_neg c14)
        refine lv_iconst (v := 1) hx hb dX5_clear_84 (by decide) ?_
        subst he
        exact kont13 _ _ hP hD hS _ (lv_sub hl [0, 1, 2] rfl)
      · replace hp := hp.1 c14
        replace he := he.trans (if_pos c14)
        refine lv_iconst (v := 2) hx hb dX5_clear_80 (by decide) ?_
        refine lv_goto (tgt := 85) hx hb dX5_clear_81 (by decide) ?_
        subst he
        exact kont13 _ _ hP hD hS _ (lv_sub hl [0, 1, 2] rfl)
    · replace hp := hp.1 c8
      replace he := he.trans (if_pos c8)
      refine lv_iconst (v := 0) hx hb dX5_clear_43 (by decide) ?_
      exact W.iret (v := 0) hx hb hr (fun t ht hW => ⟨⟨0, (mr, me, u7_0, md, mz, mk, mo, mj, ml), rfl, he, by rw [ht]; exact hP, va_K.moved hW.alike hK, hD⟩, hS.F ht⟩) hS.2.2 dX5_clear_44
  replace he := hJ2
  replace hp := hpJ2
  refine lv_if_eq (tgt := 36) hx hb dX5_clear_8 (by decide) (fun c3 => ?_) (fun c3 => ?_)
  · replace hp := hp.1 c3
    replace he := he.trans (if_pos c3)
    refine lv_iconst (v := 0) hx hb dX5_clear_36 (by decide) ?_
    subst he
    exact kont2 (Or.inl rfl) _ _ hP hD hS _ (lv_sub hl [1, 2] rfl)
  · replace hp := hp.2 c3
    replace he := he.trans (if_neg c3)
    refine lv_aload_n hx hb dX5_clear_11 rfl (lv_at hl 1 rfl) ?_
    refine va_get (D := D) (ci := 5) (v := .int mr) (C := RX5) (T := TX5) (N := 16) hx hb hts (by decide +kernel) hown hK hP 0 rfl rfl 2 (by decide) (hts (.fieldLink RX5 68 "AlarmgroveModel" "raised" "I") (by decide +kernel)) (fun _ h9 => h9) rfl dX5_clear_12 ?_
    refine lv_iload_n hx hb dX5_clear_15 rfl (lv_at hl 2 rfl) ?_
    refine k_calli (S := Unit) (wc := ([] : va_W)) (wr := (W_X5 cI m0 m1 m2 m3 m4 m5 m6 m7 m8 m9 m10 m11 mr mc me mw mh mn mu ms mt md mz mi mk mo mj ml)) (w1 := fun u => ([] : va_W)) (fun u => (W_X5 cI m0 m1 m2 m3 m4 m5 m6 m7 m8 m9 m10 m11 mr mc me mw mh mn mu ms mt md mz mi mk mo mj ml)) hP hK hD hN hS hA [] [0, 1, 2, 3, 4, 5, 6, 7, 8, 9, 10, 11] rfl rfl (by decide) (by decide) (by decide) [0, 1, 2, 3, 4, 5, 6, 7, 8, 9, 10, 11] (by decide) (fun _ => rfl) (fun hg => va_runS (As := [.int mr, .int a1]) (rest := [.int (f_X5_isNode a1), .ref m0]) ⟨hx, hb, hml, hown, hts⟩ (c_X5_has l D cI _ mr a1) (va_cwS 2 hts gX5_clear_X5_has rfl rfl rfl (by decide +kernel) ⟨Nat.le_of_ble_eq_true rfl, Nat.le_of_ble_eq_true rfl⟩) ⟨PW.blind, fun U hU hW => ⟨rfl, hg U hU hW⟩⟩ rfl rfl hl.1 rfl (lv_room (Nat.le_of_ble_eq_true rfl)) dX5_clear_16 ⟨Nat.le_of_ble_eq_true rfl, Nat.le_of_ble_eq_true rfl⟩) (fun r4 u H locs hw hP hD hS => ?_)
    obtain ⟨hw, hb4⟩ := hw
    subst hw
    refine lv_if_eq (tgt := 36) hx hb dX5_clear_19 (by decide) (fun c5 => ?_) (fun c5 => ?_)
    · replace hp := hp.1 c5
      replace he := he.trans (if_pos c5)
      refine lv_iconst (v := 0) hx hb dX5_clear_36 (by decide) ?_
      subst he
      exact kont2 (Or.inl rfl) _ _ hP hD hS _ (lv_sub hl [1, 2] rfl)
    · replace hp := hp.2 c5
      replace he := he.trans (if_neg c5)
      refine lv_aload_n hx hb dX5_clear_22 rfl (lv_at hl 1 rfl) ?_
      refine va_get (D := D) (ci := 5) (v := .int me) (C := RX5) (T := TX5) (N := 16) hx hb hts (by decide +kernel) hown hK hP 0 rfl rfl 13 (by decide) (hts (.fieldLink RX5 65 "AlarmgroveModel" "events" "I") (by decide +kernel)) (fun _ h9 => h9) rfl dX5_clear_23 ?_
      refine lv_sipush (v := 300) hx hb dX5_clear_26 (by decide) ?_
      refine lv_icmp_ge (tgt := 36) hx hb dX5_clear_29 (by decide) (fun c6 => ?_) (fun c6 => ?_)
      · replace hp := hp.1 c6
        replace he := he.trans (if_pos c6)
        refine lv_iconst (v := 0) hx hb dX5_clear_36 (by decide) ?_
        subst he
        exact kont2 (Or.inl rfl) _ _ hP hD hS _ (lv_sub hl [1, 2] rfl)
      · replace hp := hp.2 c6
        replace he := he.trans (if_neg c6)
        refine lv_iconst (v := 1) hx hb dX5_clear_32 (by decide) ?_
        refine lv_goto (tgt := 37) hx hb dX5_clear_33 (by decide) ?_
        subst he
        exact kont2 (Or.inr rfl) _ _ hP hD hS _ (lv_sub hl [1, 2] rfl)
abbrev rm_X5_raisesOf : Room := { frames := 0, cells := 0, slots := 0, locals := 0 }
abbrev Q_X5_raisesOf (D : va_G) (cI : ClassId) (m0 m1 m2 m3 m4 m5 m6 m7 m8 m9 m10 m11 : Nat) (mr : Int32) (mc : Int32) (me : Int32) (mw : Int32) (mh : Int32) (mn : AA) (mu : AA) (ms : AA) (mt : AA) (md : AA) (mz : AA) (mi : AA) (mk : AA) (mo : AA) (mj : AA) (ml : AA) (a1 a2 : Int32) (A : Nat → Prop) : Array Value → State → Outcome → State → Prop := va_Qi (S := Unit) (fun r u => f_X5_raisesOf me mw mk mo mj a1 a2 = r) (fun u t => QW D [(cI, .int)] A (W_X5 cI m0 m1 m2 m3 m4 m5 m6 m7 m8 m9 m10 m11 mr mc me mw mh mn mu ms mt md mz mi mk mo mj ml) t) A
set_option maxHeartbeats 4000000 in
set_option maxRecDepth 100000 in
theorem c_X5_raisesOf (l : Launch)  (D : va_G) (cI : ClassId) (m0 m1 m2 m3 m4 m5 m6 m7 m8 m9 m10 m11 : Nat) (mr : Int32) (mc : Int32) (me : Int32) (mw : Int32) (mh : Int32) (mn : AA) (mu : AA) (ms : AA) (mt : AA) (md : AA) (mz : AA) (mi : AA) (mk : AA) (mo : AA) (mj : AA) (ml : AA) (sz : Nat) (a1 a2 : Int32) (hp : p_X5_raisesOf me mw mk mo mj a1 a2) : Met l yX5_raisesOf wsX5_raisesOf rm_X5_raisesOf (va_Pc [.ref m0, .int a1, .int a2] (PW D [(cI, .int)] sz (W_X5 cI m0 m1 m2 m3 m4 m5 m6 m7 m8 m9 m10 m11 mr mc me mw mh mn mu ms mt md mz mi mk mo mj ml))) (Q_X5_raisesOf D cI m0 m1 m2 m3 m4 m5 m6 m7 m8 m9 m10 m11 mr mc me mw mh mn mu ms mt md mz mi mk mo mj ml a1 a2 (va_A (W_X5 cI m0 m1 m2 m3 m4 m5 m6 m7 m8 m9 m10 m11 mr mc me mw mh mn mu ms mt md mz mi mk mo mj ml) sz)) 0 0 (va_A (W_X5 cI m0 m1 m2 m3 m4 m5 m6 m7 m8 m9 m10 m11 mr mc me mw mh mn mu ms mt md mz mi mk mo mj ml) sz) := by
  refine Met.ofW (cc := cX5_raisesOf) (maxL := 5) (ret := (some .int)) (by decide) rfl ?_
  intro p e s m args below meth c s₁ B hml hv
  obtain ⟨rfl, hsz, hP, hK, hD0, hN⟩ := hv
  have hx := B.exec
  have hb := B.bytes
  have hr := B.returns
  have hts := atoms_spec (ws := wsX5_raisesOf) B.pre
  have hown : s.vm.findClass RX5 = some m.cls := findClass_of_methodNamed B.named
  have hlocks := B.notSynchronized
  subst hsz
  have hD := hD0.self (sz := s.heap.size)
  generalize hAe : va_A (W_X5 cI m0 m1 m2 m3 m4 m5 m6 m7 m8 m9 m10 m11 mr mc me mw mh mn mu ms mt md mz mi mk mo mj ml) s.heap.size = A at hD ⊢
  have hA : ∀ q : Nat, s.heap.size ≤ q → A q := fun q h => by rw [← hAe]; exact Or.inr h
  have hS : va_S A s.heap s.heap [] := va_S.rf
  have hl := lv_entry ([.ref m0, .int a1, .int a2]) (n := 5) (Nat.le_of_ble_eq_true rfl)
  rw [lg_entry_eq]
  generalize (lg_sl ([.ref m0, .int a1, .int a2]) ++ List.replicate (5 - (lg_sl ([.ref m0, .int a1, .int a2])).length) Slot.unset).toArray = ls at hl ⊢
  have hl : lv_has ls 5 [(0, .ref m0), (1, .int a1), (2, .int a2)] := hl
  have he := f_X5_raisesOf.eq_1 me mw mk mo mj a1 a2
  replace hp := Eq.mp (p_X5_raisesOf.eq_1 ..) hp
  refine lv_iconst (v := 0) hx hb dX5_raisesOf_0 (by decide) ?_
  refine lv_istore_n (lv' := [(3, .int 0), (0, .ref m0), (1, .int a1), (2, .int a2)]) hx hb dX5_raisesOf_1 rfl hl (by decide) rfl (fun ls hl => ?_)
  refine lv_iconst (v := 0) hx hb dX5_raisesOf_2 (by decide) ?_
  refine lv_istore (lv' := [(4, .int 0), (3, .int 0), (0, .ref m0), (1, .int a1), (2, .int a2)]) hx hb dX5_raisesOf_3 hl (by decide) rfl (fun ls hl => ?_)
  obtain ⟨⟨r1_v5_3, r1_v5_4⟩, hL1⟩ : ∃ z, z = f_X5_raisesOf_L5 me mw mk mo mj a1 a2 301 (0 : Int32) (0 : Int32) := ⟨_, rfl⟩
  rw [← hL1] at he
  try dsimp only at he
  have hpL1 := hp.1
  replace hp := hp.2 _ _ hL1.symm
  have kont1 : ∀ (x1_v5_3 : Int32) (x1_v5_4 : Int32), (r1_v5_3, r1_v5_4) = (x1_v5_3, x1_v5_4) → ∀ (H : Heap) (locs : List Loc), va_P D vwCl (W_X5 cI m0 m1 m2 m3 m4 m5 m6 m7 m8 m9 m10 m11 mr mc me mw mh mn mu ms mt md mz mi mk mo mj ml) H → va_D A (W_X5 cI m0 m1 m2 m3 m4 m5 m6 m7 m8 m9 m10 m11 mr mc me mw mh mn mu ms mt md mz mi mk mo mj ml) → va_S A s.heap H locs → ∀ ls : Array Slot, lv_has ls 5 [(3, .int x1_v5_3)] → W p l e (headSpec wsX5_raisesOf rm_X5_raisesOf).room s m ([.ref m0, .int a1, .int a2] : List Value).toArray below meth c H locs 0 0 (MQ below (Q_X5_raisesOf D cI m0 m1 m2 m3 m4 m5 m6 m7 m8 m9 m10 m11 mr mc me mw mh mn mu ms mt md mz mi mk mo mj ml a1 a2 A) ([.ref m0, .int a1, .int a2] : List Value).toArray s 0 0 A) (F0 m 65 ls []) := by
    intro x1_v5_3 x1_v5_4 hxe H locs hP hD hS ls hl
    simp only [Prod.mk.injEq] at hxe
    obtain ⟨rfl, rfl⟩ := hxe
    refine lv_iload_n hx hb dX5_raisesOf_65 rfl (lv_at hl 0 rfl) ?_
    exact W.iret (v := r1_v5_3) hx hb hr (fun t ht hW => ⟨⟨r1_v5_3, (), rfl, he, by rw [ht]; exact hP, va_K.moved hW.alike hK, hD⟩, hS.F ht⟩) hS.2.2 dX5_raisesOf_66
  have loop1 : ∀ (n : Nat) (v5_3 : Int32) (v5_4 : Int32), p_X5_raisesOf_L5 me mw mk mo mj a1 a2 n v5_3 v5_4 → (r1_v5_3, r1_v5_4) = f_X5_raisesOf_L5 me mw mk mo mj a1 a2 n v5_3 v5_4 → ∀ (H : Heap) (locs : List Loc), va_P D vwCl (W_X5 cI m0 m1 m2 m3 m4 m5 m6 m7 m8 m9 m10 m11 mr mc me mw mh mn mu ms mt md mz mi mk mo mj ml) H → va_D A (W_X5 cI m0 m1 m2 m3 m4 m5 m6 m7 m8 m9 m10 m11 mr mc me mw mh mn mu ms mt md mz mi mk mo mj ml) → va_S A s.heap H locs → ∀ ls : Array Slot, lv_has ls 5 [(4, .int v5_4), (3, .int v5_3), (0, .ref m0), (1, .int a1), (2, .int a2)] → W p l e (headSpec wsX5_raisesOf rm_X5_raisesOf).room s m ([.ref m0, .int a1, .int a2] : List Value).toArray below meth c H locs 0 0 (MQ below (Q_X5_raisesOf D cI m0 m1 m2 m3 m4 m5 m6 m7 m8 m9 m10 m11 mr mc me mw mh mn mu ms mt md mz mi mk mo mj ml a1 a2 A) ([.ref m0, .int a1, .int a2] : List Value).toArray s 0 0 A) (F0 m 5 ls []) := by
    intro n
    induction n with
    | zero => exact fun _ _ hp => hp.elim
    | succ n ih =>
      intro v5_3 v5_4 hp he H locs hP hD hS ls hl
      replace hp := Eq.mp (p_X5_raisesOf_L5.eq_2 ..) hp
      replace he := he.trans (f_X5_raisesOf_L5.eq_2 ..)
      refine lv_iload hx hb dX5_raisesOf_5 (lv_at hl 0 rfl) ?_
      refine lv_aload_n hx hb dX5_raisesOf_7 rfl (lv_at hl 2 rfl) ?_
      refine va_get (D := D) (ci := 5) (v := .int me) (C := RX5) (T := TX5) (N := 16) hx hb hts (by decide +kernel) hown hK hP 0 rfl rfl 13 (by decide) (hts (.fieldLink RX5 65 "AlarmgroveModel" "events" "I") (by decide +kernel)) (fun _ h9 => h9) rfl dX5_raisesOf_8 ?_
      refine lv_icmp_ge (tgt := 65) hx hb dX5_raisesOf_11 (by decide) (fun c2 => ?_) (fun c2 => ?_)
      · replace hp := hp.1 c2
        replace he := he.trans (if_pos c2)
        exact kont1 _ _ he _ _ hP hD hS _ (lv_sub hl [1] rfl)
      · replace hp := hp.2 c2
        replace he := he.trans (if_neg c2)
        refine lv_iload_n hx hb dX5_raisesOf_14 rfl (lv_at hl 1 rfl) ?_
        refine lv_aload_n hx hb dX5_raisesOf_15 rfl (lv_at hl 2 rfl) ?_
        refine va_get (D := D) (ci := 5) (v := .ref m8) (C := RX5) (T := TX5) (N := 16) hx hb hts (by decide +kernel) hown hK hP 0 rfl rfl 9 (by decide) (hts (.fieldLink RX5 31 "AlarmgroveModel" "kind" "[I") (by decide +kernel)) (fun _ h9 => h9) rfl dX5_raisesOf_16 ?_
        refine lv_iload hx hb dX5_raisesOf_19 (lv_at hl 0 rfl) ?_
        have h3 := hp.1
        replace hp := hp.2
        refine va_iald hx hb hK hP 8 0 rfl rfl h3 dX5_raisesOf_21 ?_
        obtain ⟨j4, hJ4⟩ : ∃ z : Int32, z = (if (mk (v5_4).toNatClampNeg) = 0 then (if (mo (v5_4).toNatClampNeg) = a1 then (if (mj (v5_4).toNatClampNeg) ≤ (mw - a2) then (0 : Int32) else (1 : Int32)) else (0 : Int32)) else (0 : Int32)) := ⟨_, rfl⟩
        rw [← hJ4] at he
        try dsimp only at he
        have hpJ4 := hp.1
        replace hp := hp.2 _  hJ4.symm
        have kont4 : (j4 = 0 ∨ j4 = 1) → ∀ (H : Heap) (locs : List Loc), va_P D vwCl (W_X5 cI m0 m1 m2 m3 m4 m5 m6 m7 m8 m9 m10 m11 mr mc me mw mh mn mu ms mt md mz mi mk mo mj ml) H → va_D A (W_X5 cI m0 m1 m2 m3 m4 m5 m6 m7 m8 m9 m10 m11 mr mc me mw mh mn mu ms mt md mz mi mk mo mj ml) → va_S A s.heap H locs → ∀ ls : Array Slot, lv_has ls 5 [(4, .int v5_4), (0, .ref m0), (1, .int a1), (2, .int a2)] → W p l e (headSpec wsX5_raisesOf rm_X5_raisesOf).room s m ([.ref m0, .int a1, .int a2] : List Value).toArray below meth c H locs 0 0 (MQ below (Q_X5_raisesOf D cI m0 m1 m2 m3 m4 m5 m6 m7 m8 m9 m10 m11 mr mc me mw mh mn mu ms mt md mz mi mk mo mj ml a1 a2 A) ([.ref m0, .int a1, .int a2] : List Value).toArray s 0 0 A) (F0 m 57 ls [.int j4, .int v5_3]) := by
          intro hb4 H locs hP hD hS ls hl
          refine lv_iadd hx hb dX5_raisesOf_57 ?_
          refine lv_istore_n (lv' := [(3, .int (v5_3 + j4)), (4, .int v5_4), (0, .ref m0), (1, .int a1), (2, .int a2)]) hx hb dX5_raisesOf_58 rfl hl (by decide) rfl (fun ls hl => ?_)
          refine lv_iinc (v := (v5_4 + 1)) (lv' := [(4, .int (v5_4 + 1)), (3, .int (v5_3 + j4)), (0, .ref m0), (1, .int a1), (2, .int a2)]) hx hb dX5_raisesOf_59 hl (k := 1) rfl rfl (by decide) rfl (fun ls hl => ?_)
          refine lv_goto (tgt := 5) hx hb dX5_raisesOf_62 (by decide) ?_
          exact ih _ _ hp he _ _ hP hD hS _ (lv_sub hl [0, 1, 2, 3, 4] rfl)
        replace he := hJ4
        replace hp := hpJ4
        refine lv_if_ne (tgt := 56) hx hb dX5_raisesOf_22 (by decide) (fun c5 => ?_) (fun c5 => ?_)
        · replace hp := hp.2 c5
          replace he := he.trans (if_neg c5)
          refine lv_iconst (v := 0) hx hb dX5_raisesOf_56 (by decide) ?_
          subst he
          exact kont4 (Or.inl rfl) _ _ hP hD hS _ (lv_sub hl [0, 2, 3, 4] rfl)
        · replace hp := hp.1 c5
          replace he := he.trans (if_pos c5)
          refine lv_aload_n hx hb dX5_raisesOf_25 rfl (lv_at hl 2 rfl) ?_
          refine va_get (D := D) (ci := 5) (v := .ref m9) (C := RX5) (T := TX5) (N := 16) hx hb hts (by decide +kernel) hown hK hP 0 rfl rfl 10 (by decide) (hts (.fieldLink RX5 34 "AlarmgroveModel" "node" "[I") (by decide +kernel)) (fun _ h9 => h9) rfl dX5_raisesOf_26 ?_
          refine lv_iload hx hb dX5_raisesOf_29 (lv_at hl 0 rfl) ?_
          have h6 := hp.1
          replace hp := hp.2
          refine va_iald hx hb hK hP 9 0 rfl rfl h6 dX5_raisesOf_31 ?_
          refine lv_iload_n hx hb dX5_raisesOf_32 rfl (lv_at hl 3 rfl) ?_
          refine lv_icmp_ne (tgt := 56) hx hb dX5_raisesOf_33 (by decide) (fun c7 => ?_) (fun c7 => ?_)
          · replace hp := hp.2 c7
            replace he := he.trans (if_neg c7)
            refine lv_iconst (v := 0) hx hb dX5_raisesOf_56 (by decide) ?_
            subst he
            exact kont4 (Or.inl rfl) _ _ hP hD hS _ (lv_sub hl [0, 2, 3, 4] rfl)
          · replace hp := hp.1 c7
            replace he := he.trans (if_pos c7)
            refine lv_aload_n hx hb dX5_raisesOf_36 rfl (lv_at hl 2 rfl) ?_
            refine va_get (D := D) (ci := 5) (v := .ref m10) (C := RX5) (T := TX5) (N := 16) hx hb hts (by decide +kernel) hown hK hP 0 rfl rfl 11 (by decide) (hts (.fieldLink RX5 37 "AlarmgroveModel" "time" "[I") (by decide +kernel)) (fun _ h9 => h9) rfl dX5_raisesOf_37 ?_
            refine lv_iload hx hb dX5_raisesOf_40 (lv_at hl 0 rfl) ?_
            have h8 := hp.1
            replace hp := hp.2
            refine va_iald hx hb hK hP 10 0 rfl rfl h8 dX5_raisesOf_42 ?_
            refine lv_aload_n hx hb dX5_raisesOf_43 rfl (lv_at hl 2 rfl) ?_
            refine va_get (D := D) (ci := 5) (v := .int mw) (C := RX5) (T := TX5) (N := 16) hx hb hts (by decide +kernel) hown hK hP 0 rfl rfl 14 (by decide) (hts (.fieldLink RX5 62 "AlarmgroveModel" "now" "I") (by decide +kernel)) (fun _ h9 => h9) rfl dX5_raisesOf_44 ?_
            refine lv_iload_n hx hb dX5_raisesOf_47 rfl (lv_at hl 4 rfl) ?_
            refine lv_isub hx hb dX5_raisesOf_48 ?_
            refine lv_icmp_le (tgt := 56) hx hb dX5_raisesOf_49 (by decide) (fun c9 => ?_) (fun c9 => ?_)
            · replace hp := hp.1 c9
              replace he := he.trans (if_pos c9)
              refine lv_iconst (v := 0) hx hb dX5_raisesOf_56 (by decide) ?_
              subst he
              exact kont4 (Or.inl rfl) _ _ hP hD hS _ (lv_sub hl [0, 2, 3, 4] rfl)
            · replace hp := hp.2 c9
              replace he := he.trans (if_neg c9)
              refine lv_iconst (v := 1) hx hb dX5_raisesOf_52 (by decide) ?_
              refine lv_goto (tgt := 57) hx hb dX5_raisesOf_53 (by decide) ?_
              subst he
              exact kont4 (Or.inr rfl) _ _ hP hD hS _ (lv_sub hl [0, 2, 3, 4] rfl)
  exact loop1 301 (0 : Int32) (0 : Int32) hpL1 hL1 _ _ hP hD hS _ (lv_sub hl [0, 1, 2, 3, 4] rfl)
abbrev rm_X5_stateOf : Room := { frames := 1, cells := 0, slots := 0, locals := 24 }
abbrev Q_X5_stateOf (D : va_G) (cI : ClassId) (m0 m1 m2 m3 m4 m5 m6 m7 m8 m9 m10 m11 : Nat) (mr : Int32) (mc : Int32) (me : Int32) (mw : Int32) (mh : Int32) (mn : AA) (mu : AA) (ms : AA) (mt : AA) (md : AA) (mz : AA) (mi : AA) (mk : AA) (mo : AA) (mj : AA) (ml : AA) (a1 : Int32) (A : Nat → Prop) : Array Value → State → Outcome → State → Prop := va_Qi (S := Unit) (fun r u => f_X5_stateOf mr me mw mu mk mo mj a1 = r) (fun u t => QW D [(cI, .int)] A (W_X5 cI m0 m1 m2 m3 m4 m5 m6 m7 m8 m9 m10 m11 mr mc me mw mh mn mu ms mt md mz mi mk mo mj ml) t) A
set_option maxHeartbeats 4000000 in
set_option maxRecDepth 100000 in
theorem c_X5_stateOf (l : Launch)  (D : va_G) (cI : ClassId) (m0 m1 m2 m3 m4 m5 m6 m7 m8 m9 m10 m11 : Nat) (mr : Int32) (mc : Int32) (me : Int32) (mw : Int32) (mh : Int32) (mn : AA) (mu : AA) (ms : AA) (mt : AA) (md : AA) (mz : AA) (mi : AA) (mk : AA) (mo : AA) (mj : AA) (ml : AA) (sz : Nat) (a1 : Int32) (hp : p_X5_stateOf mr me mw mu mk mo mj a1) : Met l yX5_stateOf wsX5_stateOf rm_X5_stateOf (va_Pc [.ref m0, .int a1] (PW D [(cI, .int)] sz (W_X5 cI m0 m1 m2 m3 m4 m5 m6 m7 m8 m9 m10 m11 mr mc me mw mh mn mu ms mt md mz mi mk mo mj ml))) (Q_X5_stateOf D cI m0 m1 m2 m3 m4 m5 m6 m7 m8 m9 m10 m11 mr mc me mw mh mn mu ms mt md mz mi mk mo mj ml a1 (va_A (W_X5 cI m0 m1 m2 m3 m4 m5 m6 m7 m8 m9 m10 m11 mr mc me mw mh mn mu ms mt md mz mi mk mo mj ml) sz)) 0 0 (va_A (W_X5 cI m0 m1 m2 m3 m4 m5 m6 m7 m8 m9 m10 m11 mr mc me mw mh mn mu ms mt md mz mi mk mo mj ml) sz) := by
  refine Met.ofW (cc := cX5_stateOf) (maxL := 2) (ret := (some .int)) (by decide) rfl ?_
  intro p e s m args below meth c s₁ B hml hv
  obtain ⟨rfl, hsz, hP, hK, hD0, hN⟩ := hv
  have hx := B.exec
  have hb := B.bytes
  have hr := B.returns
  have hts := atoms_spec (ws := wsX5_stateOf) B.pre
  have hown : s.vm.findClass RX5 = some m.cls := findClass_of_methodNamed B.named
  have hlocks := B.notSynchronized
  subst hsz
  have hD := hD0.self (sz := s.heap.size)
  generalize hAe : va_A (W_X5 cI m0 m1 m2 m3 m4 m5 m6 m7 m8 m9 m10 m11 mr mc me mw mh mn mu ms mt md mz mi mk mo mj ml) s.heap.size = A at hD ⊢
  have hA : ∀ q : Nat, s.heap.size ≤ q → A q := fun q h => by rw [← hAe]; exact Or.inr h
  have hS : va_S A s.heap s.heap [] := va_S.rf
  have hl := lv_entry ([.ref m0, .int a1]) (n := 2) (Nat.le_of_ble_eq_true rfl)
  rw [lg_entry_eq]
  generalize (lg_sl ([.ref m0, .int a1]) ++ List.replicate (2 - (lg_sl ([.ref m0, .int a1])).length) Slot.unset).toArray = ls at hl ⊢
  have hl : lv_has ls 2 [(0, .ref m0), (1, .int a1)] := hl
  have he := f_X5_stateOf.eq_1 mr me mw mu mk mo mj a1
  replace hp := Eq.mp (p_X5_stateOf.eq_1 ..) hp
  refine lv_aload_n hx hb dX5_stateOf_0 rfl (lv_at hl 0 rfl) ?_
  refine va_get (D := D) (ci := 5) (v := .int mr) (C := RX5) (T := TX5) (N := 16) hx hb hts (by decide +kernel) hown hK hP 0 rfl rfl 2 (by decide) (hts (.fieldLink RX5 68 "AlarmgroveModel" "raised" "I") (by decide +kernel)) (fun _ h9 => h9) rfl dX5_stateOf_1 ?_
  refine lv_iload_n hx hb dX5_stateOf_4 rfl (lv_at hl 1 rfl) ?_
  refine k_calli (S := Unit) (wc := ([] : va_W)) (wr := (W_X5 cI m0 m1 m2 m3 m4 m5 m6 m7 m8 m9 m10 m11 mr mc me mw mh mn mu ms mt md mz mi mk mo mj ml)) (w1 := fun u => ([] : va_W)) (fun u => (W_X5 cI m0 m1 m2 m3 m4 m5 m6 m7 m8 m9 m10 m11 mr mc me mw mh mn mu ms mt md mz mi mk mo mj ml)) hP hK hD hN hS hA [] [0, 1, 2, 3, 4, 5, 6, 7, 8, 9, 10, 11] rfl rfl (by decide) (by decide) (by decide) [0, 1, 2, 3, 4, 5, 6, 7, 8, 9, 10, 11] (by decide) (fun _ => rfl) (fun hg => va_runS (As := [.int mr, .int a1]) (rest := []) ⟨hx, hb, hml, hown, hts⟩ (c_X5_has l D cI _ mr a1) (va_cwS 2 hts gX5_stateOf_X5_has rfl rfl rfl (by decide +kernel) ⟨Nat.le_of_ble_eq_true rfl, Nat.le_of_ble_eq_true rfl⟩) ⟨PW.blind, fun U hU hW => ⟨rfl, hg U hU hW⟩⟩ rfl rfl hl.1 rfl (lv_room (Nat.le_of_ble_eq_true rfl)) dX5_stateOf_5 ⟨Nat.le_of_ble_eq_true rfl, Nat.le_of_ble_eq_true rfl⟩) (fun r1 u H locs hw hP hD hS => ?_)
  obtain ⟨hw, hb1⟩ := hw
  subst hw
  refine lv_if_ne (tgt := 13) hx hb dX5_stateOf_8 (by decide) (fun c2 => ?_) (fun c2 => ?_)
  · replace hp := hp.2 c2
    replace he := he.trans (if_neg c2)
    refine lv_aload_n hx hb dX5_stateOf_13 rfl (lv_at hl 0 rfl) ?_
    refine lv_iload_n hx hb dX5_stateOf_14 rfl (lv_at hl 1 rfl) ?_
    refine lv_bipush (v := 10) hx hb dX5_stateOf_15 (by decide) ?_
    have hq3 := hp.1
    replace hp := hp.2
    refine k_calli (S := Unit) (wc := (W_X5 cI m0 m1 m2 m3 m4 m5 m6 m7 m8 m9 m10 m11 mr mc me mw mh mn mu ms mt md mz mi mk mo mj ml)) (wr := ([] : va_W)) (w1 := fun u => (W_X5 cI m0 m1 m2 m3 m4 m5 m6 m7 m8 m9 m10 m11 mr mc me mw mh mn mu ms mt md mz mi mk mo mj ml)) (fun u => (W_X5 cI m0 m1 m2 m3 m4 m5 m6 m7 m8 m9 m10 m11 mr mc me mw mh mn mu ms mt md mz mi mk mo mj ml)) hP hK hD hN hS hA [0, 1, 2, 3, 4, 5, 6, 7, 8, 9, 10, 11] [] rfl rfl (by decide) (by decide) (by decide) [0, 1, 2, 3, 4, 5, 6, 7, 8, 9, 10, 11] (by decide) (fun _ => rfl) (fun hg => va_runV (As := [.int a1, .int 10]) (rest := []) ⟨hx, hb, hml, hown, hts⟩ (c_X5_raisesOf l D cI m0 m1 m2 m3 m4 m5 m6 m7 m8 m9 m10 m11 mr mc me mw mh mn mu ms mt md mz mi mk mo mj ml _ a1 10 hq3) (cwV 2 hts gX5_stateOf_X5_raisesOf rfl rfl rfl (by decide +kernel) ⟨Nat.le_of_ble_eq_true rfl, Nat.le_of_ble_eq_true rfl⟩) ⟨PW.blind, va_recv hK hP (ci := 5) (q0 := 0) rfl rfl, fun U hU hW => ⟨rfl, hg U hU hW⟩⟩ rfl rfl hl.1 rfl (lv_room (Nat.le_of_ble_eq_true rfl)) dX5_stateOf_17 ⟨Nat.le_of_ble_eq_true rfl, Nat.le_of_ble_eq_true rfl⟩) (fun r3 u H locs hw hP hD hS => ?_)
    subst hw
    refine lv_iconst (v := 3) hx hb dX5_stateOf_20 (by decide) ?_
    obtain ⟨j4, hJ4⟩ : ∃ z : Int32, z = (if (f_X5_raisesOf me mw mk mo mj a1 (10 : Int32)) < 3 then (if ((mu (a1).toNatClampNeg) &&& mr) = 0 then (1 : Int32) else (3 : Int32)) else (2 : Int32)) := ⟨_, rfl⟩
    rw [← hJ4] at he
    try dsimp only at he
    have hpJ4 := hp.1
    replace hp := hp.2 _  hJ4.symm
    have kont4 : ∀ (H : Heap) (locs : List Loc), va_P D vwCl (W_X5 cI m0 m1 m2 m3 m4 m5 m6 m7 m8 m9 m10 m11 mr mc me mw mh mn mu ms mt md mz mi mk mo mj ml) H → va_D A (W_X5 cI m0 m1 m2 m3 m4 m5 m6 m7 m8 m9 m10 m11 mr mc me mw mh mn mu ms mt md mz mi mk mo mj ml) → va_S A s.heap H locs → ∀ ls : Array Slot, lv_has ls 2 [] → W p l e (headSpec wsX5_stateOf rm_X5_stateOf).room s m ([.ref m0, .int a1] : List Value).toArray below meth c H locs 0 0 (MQ below (Q_X5_stateOf D cI m0 m1 m2 m3 m4 m5 m6 m7 m8 m9 m10 m11 mr mc me mw mh mn mu ms mt md mz mi mk mo mj ml a1 A) ([.ref m0, .int a1] : List Value).toArray s 0 0 A) (F0 m 47 ls [.int j4]) := by
      intro H locs hP hD hS ls hl
      exact W.iret (v := j4) hx hb hr (fun t ht hW => ⟨⟨j4, (), rfl, he, by rw [ht]; exact hP, va_K.moved hW.alike hK, hD⟩, hS.F ht⟩) hS.2.2 dX5_stateOf_47
    replace he := hJ4
    replace hp := hpJ4
    refine lv_icmp_lt (tgt := 28) hx hb dX5_stateOf_21 (by decide) (fun c5 => ?_) (fun c5 => ?_)
    · replace hp := hp.1 c5
      replace he := he.trans (if_pos c5)
      refine lv_aload_n hx hb dX5_stateOf_28 rfl (lv_at hl 0 rfl) ?_
      refine va_get (D := D) (ci := 5) (v := .ref m2) (C := RX5) (T := TX5) (N := 16) hx hb hts (by decide +kernel) hown hK hP 0 rfl rfl 1 (by decide) (hts (.fieldLink RX5 13 "AlarmgroveModel" "under" "[I") (by decide +kernel)) (fun _ h9 => h9) rfl dX5_stateOf_29 ?_
      refine lv_iload_n hx hb dX5_stateOf_32 rfl (lv_at hl 1 rfl) ?_
      have h6 := hp.1
      replace hp := hp.2
      refine va_iald hx hb hK hP 2 0 rfl rfl h6 dX5_stateOf_33 ?_
      refine lv_aload_n hx hb dX5_stateOf_34 rfl (lv_at hl 0 rfl) ?_
      refine va_get (D := D) (ci := 5) (v := .int mr) (C := RX5) (T := TX5) (N := 16) hx hb hts (by decide +kernel) hown hK hP 0 rfl rfl 2 (by decide) (hts (.fieldLink RX5 68 "AlarmgroveModel" "raised" "I") (by decide +kernel)) (fun _ h9 => h9) rfl dX5_stateOf_35 ?_
      refine lv_iand hx hb dX5_stateOf_38 ?_
      refine lv_if_eq (tgt := 46) hx hb dX5_stateOf_39 (by decide) (fun c7 => ?_) (fun c7 => ?_)
      · replace hp := hp.1 c7
        replace he := he.trans (if_pos c7)
        refine lv_iconst (v := 1) hx hb dX5_stateOf_46 (by decide) ?_
        subst he
        exact kont4 _ _ hP hD hS _ (lv_sub hl [] rfl)
      · replace hp := hp.2 c7
        replace he := he.trans (if_neg c7)
        refine lv_iconst (v := 3) hx hb dX5_stateOf_42 (by decide) ?_
        refine lv_goto (tgt := 47) hx hb dX5_stateOf_43 (by decide) ?_
        subst he
        exact kont4 _ _ hP hD hS _ (lv_sub hl [] rfl)
    · replace hp := hp.2 c5
      replace he := he.trans (if_neg c5)
      refine lv_iconst (v := 2) hx hb dX5_stateOf_24 (by decide) ?_
      refine lv_goto (tgt := 47) hx hb dX5_stateOf_25 (by decide) ?_
      subst he
      exact kont4 _ _ hP hD hS _ (lv_sub hl [] rfl)
  · replace hp := hp.1 c2
    replace he := he.trans (if_pos c2)
    refine lv_iconst (v := 0) hx hb dX5_stateOf_11 (by decide) ?_
    exact W.iret (v := 0) hx hb hr (fun t ht hW => ⟨⟨0, (), rfl, he, by rw [ht]; exact hP, va_K.moved hW.alike hK, hD⟩, hS.F ht⟩) hS.2.2 dX5_stateOf_12
abbrev rm_X5_state : Room := { frames := 2, cells := 0, slots := 0, locals := 45 }
abbrev Q_X5_state (D : va_G) (cI : ClassId) (m0 m1 m2 m3 m4 m5 m6 m7 m8 m9 m10 m11 : Nat) (mr : Int32) (mc : Int32) (me : Int32) (mw : Int32) (mh : Int32) (mn : AA) (mu : AA) (ms : AA) (mt : AA) (md : AA) (mz : AA) (mi : AA) (mk : AA) (mo : AA) (mj : AA) (ml : AA) (a1 : Int32) (A : Nat → Prop) : Array Value → State → Outcome → State → Prop := va_Qi (S := Int32) (fun r u => f_X5_state mr me mw mu mk mo mj a1 = (r, u)) (fun u t => QW D [(cI, .int)] A (W_X5 cI m0 m1 m2 m3 m4 m5 m6 m7 m8 m9 m10 m11 mr mc me mw u mn mu ms mt md mz mi mk mo mj ml) t) A
set_option maxHeartbeats 4000000 in
set_option maxRecDepth 100000 in
theorem c_X5_state (l : Launch)  (D : va_G) (cI : ClassId) (m0 m1 m2 m3 m4 m5 m6 m7 m8 m9 m10 m11 : Nat) (mr : Int32) (mc : Int32) (me : Int32) (mw : Int32) (mh : Int32) (mn : AA) (mu : AA) (ms : AA) (mt : AA) (md : AA) (mz : AA) (mi : AA) (mk : AA) (mo : AA) (mj : AA) (ml : AA) (sz : Nat) (a1 : Int32) (hp : p_X5_state mr me mw mu mk mo mj a1) : Met l yX5_state wsX5_state rm_X5_state (va_Pc [.ref m0, .int a1] (PW D [(cI, .int)] sz (W_X5 cI m0 m1 m2 m3 m4 m5 m6 m7 m8 m9 m10 m11 mr mc me mw mh mn mu ms mt md mz mi mk mo mj ml))) (Q_X5_state D cI m0 m1 m2 m3 m4 m5 m6 m7 m8 m9 m10 m11 mr mc me mw mh mn mu ms mt md mz mi mk mo mj ml a1 (va_A (W_X5 cI m0 m1 m2 m3 m4 m5 m6 m7 m8 m9 m10 m11 mr mc me mw mh mn mu ms mt md mz mi mk mo mj ml) sz)) 0 0 (va_A (W_X5 cI m0 m1 m2 m3 m4 m5 m6 m7 m8 m9 m10 m11 mr mc me mw mh mn mu ms mt md mz mi mk mo mj ml) sz) := by
  refine Met.ofW (cc := cX5_state) (maxL := 2) (ret := (some .int)) (by decide) rfl ?_
  intro p e s m args below meth c s₁ B hml hv
  obtain ⟨rfl, hsz, hP, hK, hD0, hN⟩ := hv
  have hx := B.exec
  have hb := B.bytes
  have hr := B.returns
  have hts := atoms_spec (ws := wsX5_state) B.pre
  have hown : s.vm.findClass RX5 = some m.cls := findClass_of_methodNamed B.named
  have hlocks := B.notSynchronized
  subst hsz
  have hD := hD0.self (sz := s.heap.size)
  generalize hAe : va_A (W_X5 cI m0 m1 m2 m3 m4 m5 m6 m7 m8 m9 m10 m11 mr mc me mw mh mn mu ms mt md mz mi mk mo mj ml) s.heap.size = A at hD ⊢
  have hA : ∀ q : Nat, s.heap.size ≤ q → A q := fun q h => by rw [← hAe]; exact Or.inr h
  have hS : va_S A s.heap s.heap [] := va_S.rf
  have hl := lv_entry ([.ref m0, .int a1]) (n := 2) (Nat.le_of_ble_eq_true rfl)
  rw [lg_entry_eq]
  generalize (lg_sl ([.ref m0, .int a1]) ++ List.replicate (2 - (lg_sl ([.ref m0, .int a1])).length) Slot.unset).toArray = ls at hl ⊢
  have hl : lv_has ls 2 [(0, .ref m0), (1, .int a1)] := hl
  have he := f_X5_state.eq_1 mr me mw mu mk mo mj a1
  replace hp := Eq.mp (p_X5_state.eq_1 ..) hp
  refine lv_aload_n hx hb dX5_state_0 rfl (lv_at hl 0 rfl) ?_
  refine lv_iload_n hx hb dX5_state_1 rfl (lv_at hl 1 rfl) ?_
  refine k_calli (S := Unit) (wc := ([] : va_W)) (wr := (W_X5 cI m0 m1 m2 m3 m4 m5 m6 m7 m8 m9 m10 m11 mr mc me mw mh mn mu ms mt md mz mi mk mo mj ml)) (w1 := fun u => ([] : va_W)) (fun u => (W_X5 cI m0 m1 m2 m3 m4 m5 m6 m7 m8 m9 m10 m11 mr mc me mw mh mn mu ms mt md mz mi mk mo mj ml)) hP hK hD hN hS hA [] [0, 1, 2, 3, 4, 5, 6, 7, 8, 9, 10, 11] rfl rfl (by decide) (by decide) (by decide) [0, 1, 2, 3, 4, 5, 6, 7, 8, 9, 10, 11] (by decide) (fun _ => rfl) (fun hg => va_runS (As := [.int a1]) (rest := [.ref m0]) ⟨hx, hb, hml, hown, hts⟩ (c_X5_isNode l D cI _ a1) (va_cwS 1 hts gX5_state_X5_isNode rfl rfl rfl (by decide +kernel) ⟨Nat.le_of_ble_eq_true rfl, Nat.le_of_ble_eq_true rfl⟩) ⟨PW.blind, fun U hU hW => ⟨rfl, hg U hU hW⟩⟩ rfl rfl hl.1 rfl (lv_room (Nat.le_of_ble_eq_true rfl)) dX5_state_2 ⟨Nat.le_of_ble_eq_true rfl, Nat.le_of_ble_eq_true rfl⟩) (fun r1 u H locs hw hP hD hS => ?_)
  obtain ⟨hw, hb1⟩ := hw
  subst hw
  refine lv_iconst (v := 1) hx hb dX5_state_5 (by decide) ?_
  refine k_calli (S := Int32) (wc := (W_X5 cI m0 m1 m2 m3 m4 m5 m6 m7 m8 m9 m10 m11 mr mc me mw mh mn mu ms mt md mz mi mk mo mj ml)) (wr := ([] : va_W)) (w1 := fun u => (W_X5 cI m0 m1 m2 m3 m4 m5 m6 m7 m8 m9 m10 m11 mr mc me mw u mn mu ms mt md mz mi mk mo mj ml)) (fun u => (W_X5 cI m0 m1 m2 m3 m4 m5 m6 m7 m8 m9 m10 m11 mr mc me mw u mn mu ms mt md mz mi mk mo mj ml)) hP hK hD hN hS hA [0, 1, 2, 3, 4, 5, 6, 7, 8, 9, 10, 11] [] rfl rfl (by decide) (by decide) (by decide) [0, 1, 2, 3, 4, 5, 6, 7, 8, 9, 10, 11] (by decide) (fun _ => rfl) (fun hg => va_runV (As := [.int (f_X5_isNode a1), .int 1]) (rest := []) ⟨hx, hb, hml, hown, hts⟩ (c_X5_goes l D cI m0 m1 m2 m3 m4 m5 m6 m7 m8 m9 m10 m11 mr mc me mw mh mn mu ms mt md mz mi mk mo mj ml _ (f_X5_isNode a1) 1) (cwV 2 hts gX5_state_X5_goes rfl rfl rfl (by decide +kernel) ⟨Nat.le_of_ble_eq_true rfl, Nat.le_of_ble_eq_true rfl⟩) ⟨PW.blind, va_recv hK hP (ci := 5) (q0 := 0) rfl rfl, fun U hU hW => ⟨rfl, hg U hU hW⟩⟩ rfl rfl hl.1 rfl (lv_room (Nat.le_of_ble_eq_true rfl)) dX5_state_6 ⟨Nat.le_of_ble_eq_true rfl, Nat.le_of_ble_eq_true rfl⟩) (fun r2 u H locs hw hP hD hS => ?_)
  obtain ⟨u2_0, rfl⟩ : ∃ z, z = u := ⟨_, rfl⟩
  obtain ⟨hw, hb2⟩ := hw
  rw [hw] at he
  try dsimp only at he
  replace hp := hp r2 u2_0 hw
  have hP : va_P D vwCl (W_X5 cI m0 m1 m2 m3 m4 m5 m6 m7 m8 m9 m10 m11 mr mc me mw u2_0 mn mu ms mt md mz mi mk mo mj ml) H := hP
  have hD : va_D A (W_X5 cI m0 m1 m2 m3 m4 m5 m6 m7 m8 m9 m10 m11 mr mc me mw u2_0 mn mu ms mt md mz mi mk mo mj ml) := hD
  obtain ⟨j3, hJ3⟩ : ∃ z : Int32, z = (if r2 = 0 then (0 : Int32) else (f_X5_stateOf mr me mw mu mk mo mj a1)) := ⟨_, rfl⟩
  rw [← hJ3] at he
  try dsimp only at he
  have hpJ3 := hp.1
  replace hp := hp.2 _  hJ3.symm
  have kont3 : ∀ (H : Heap) (locs : List Loc), va_P D vwCl (W_X5 cI m0 m1 m2 m3 m4 m5 m6 m7 m8 m9 m10 m11 mr mc me mw u2_0 mn mu ms mt md mz mi mk mo mj ml) H → va_D A (W_X5 cI m0 m1 m2 m3 m4 m5 m6 m7 m8 m9 m10 m11 mr mc me mw u2_0 mn mu ms mt md mz mi mk mo mj ml) → va_S A s.heap H locs → ∀ ls : Array Slot, lv_has ls 2 [] → W p l e (headSpec wsX5_state rm_X5_state).room s m ([.ref m0, .int a1] : List Value).toArray below meth c H locs 0 0 (MQ below (Q_X5_state D cI m0 m1 m2 m3 m4 m5 m6 m7 m8 m9 m10 m11 mr mc me mw mh mn mu ms mt md mz mi mk mo mj ml a1 A) ([.ref m0, .int a1] : List Value).toArray s 0 0 A) (F0 m 21 ls [.int j3]) := by
    intro H locs hP hD hS ls hl
    exact W.iret (v := j3) hx hb hr (fun t ht hW => ⟨⟨j3, u2_0, rfl, he, by rw [ht]; exact hP, va_K.moved hW.alike hK, hD⟩, hS.F ht⟩) hS.2.2 dX5_state_21
  replace he := hJ3
  replace hp := hpJ3
  refine lv_if_eq (tgt := 20) hx hb dX5_state_9 (by decide) (fun c4 => ?_) (fun c4 => ?_)
  · replace hp := hp.1 c4
    replace he := he.trans (if_pos c4)
    refine lv_iconst (v := 0) hx hb dX5_state_20 (by decide) ?_
    subst he
    exact kont3 _ _ hP hD hS _ (lv_sub hl [] rfl)
  · replace hp := hp.2 c4
    replace he := he.trans (if_neg c4)
    refine lv_aload_n hx hb dX5_state_12 rfl (lv_at hl 0 rfl) ?_
    refine lv_iload_n hx hb dX5_state_13 rfl (lv_at hl 1 rfl) ?_
    have hq5 := hp.1
    replace hp := hp.2
    refine k_calli (S := Unit) (wc := (W_X5 cI m0 m1 m2 m3 m4 m5 m6 m7 m8 m9 m10 m11 mr mc me mw u2_0 mn mu ms mt md mz mi mk mo mj ml)) (wr := ([] : va_W)) (w1 := fun u => (W_X5 cI m0 m1 m2 m3 m4 m5 m6 m7 m8 m9 m10 m11 mr mc me mw u2_0 mn mu ms mt md mz mi mk mo mj ml)) (fun u => (W_X5 cI m0 m1 m2 m3 m4 m5 m6 m7 m8 m9 m10 m11 mr mc me mw u2_0 mn mu ms mt md mz mi mk mo mj ml)) hP hK hD hN hS hA [0, 1, 2, 3, 4, 5, 6, 7, 8, 9, 10, 11] [] rfl rfl (by decide) (by decide) (by decide) [0, 1, 2, 3, 4, 5, 6, 7, 8, 9, 10, 11] (by decide) (fun _ => rfl) (fun hg => va_runV (As := [.int a1]) (rest := []) ⟨hx, hb, hml, hown, hts⟩ (c_X5_stateOf l D cI m0 m1 m2 m3 m4 m5 m6 m7 m8 m9 m10 m11 mr mc me mw u2_0 mn mu ms mt md mz mi mk mo mj ml _ a1 hq5) (cwV 1 hts gX5_state_X5_stateOf rfl rfl rfl (by decide +kernel) ⟨Nat.le_of_ble_eq_true rfl, Nat.le_of_ble_eq_true rfl⟩) ⟨PW.blind, va_recv hK hP (ci := 5) (q0 := 0) rfl rfl, fun U hU hW => ⟨rfl, hg U hU hW⟩⟩ rfl rfl hl.1 rfl (lv_room (Nat.le_of_ble_eq_true rfl)) dX5_state_14 ⟨Nat.le_of_ble_eq_true rfl, Nat.le_of_ble_eq_true rfl⟩) (fun r5 u H locs hw hP hD hS => ?_)
    subst hw
    refine lv_goto (tgt := 21) hx hb dX5_state_17 (by decide) ?_
    subst he
    exact kont3 _ _ hP hD hS _ (lv_sub hl [] rfl)
abbrev rm_X5_nodesThatAre : Room := { frames := 2, cells := 0, slots := 0, locals := 45 }
abbrev Q_X5_nodesThatAre (D : va_G) (cI : ClassId) (m0 m1 m2 m3 m4 m5 m6 m7 m8 m9 m10 m11 : Nat) (mr : Int32) (mc : Int32) (me : Int32) (mw : Int32) (mh : Int32) (mn : AA) (mu : AA) (ms : AA) (mt : AA) (md : AA) (mz : AA) (mi : AA) (mk : AA) (mo : AA) (mj : AA) (ml : AA) (a1 : Int32) (A : Nat → Prop) : Array Value → State → Outcome → State → Prop := va_Qi (S := Int32) (fun r u => f_X5_nodesThatAre mr me mw mu mk mo mj a1 = (r, u)) (fun u t => QW D [(cI, .int)] A (W_X5 cI m0 m1 m2 m3 m4 m5 m6 m7 m8 m9 m10 m11 mr mc me mw u mn mu ms mt md mz mi mk mo mj ml) t) A
set_option maxHeartbeats 4000000 in
set_option maxRecDepth 100000 in
theorem c_X5_nodesThatAre (l : Launch)  (D : va_G) (cI : ClassId) (m0 m1 m2 m3 m4 m5 m6 m7 m8 m9 m10 m11 : Nat) (mr : Int32) (mc : Int32) (me : Int32) (mw : Int32) (mh : Int32) (mn : AA) (mu : AA) (ms : AA) (mt : AA) (md : AA) (mz : AA) (mi : AA) (mk : AA) (mo : AA) (mj : AA) (ml : AA) (sz : Nat) (a1 : Int32) (hp : p_X5_nodesThatAre mr me mw mu mk mo mj a1) : Met l yX5_nodesThatAre wsX5_nodesThatAre rm_X5_nodesThatAre (va_Pc [.ref m0, .int a1] (PW D [(cI, .int)] sz (W_X5 cI m0 m1 m2 m3 m4 m5 m6 m7 m8 m9 m10 m11 mr mc me mw mh mn mu ms mt md mz mi mk mo mj ml))) (Q_X5_nodesThatAre D cI m0 m1 m2 m3 m4 m5 m6 m7 m8 m9 m10 m11 mr mc me mw mh mn mu ms mt md mz mi mk mo mj ml a1 (va_A (W_X5 cI m0 m1 m2 m3 m4 m5 m6 m7 m8 m9 m10 m11 mr mc me mw mh mn mu ms mt md mz mi mk mo mj ml) sz)) 0 0 (va_A (W_X5 cI m0 m1 m2 m3 m4 m5 m6 m7 m8 m9 m10 m11 mr mc me mw mh mn mu ms mt md mz mi mk mo mj ml) sz) := by
  refine Met.ofW (cc := cX5_nodesThatAre) (maxL := 4) (ret := (some .int)) (by decide) rfl ?_
  intro p e s m args below meth c s₁ B hml hv
  obtain ⟨rfl, hsz, hP, hK, hD0, hN⟩ := hv
  have hx := B.exec
  have hb := B.bytes
  have hr := B.returns
  have hts := atoms_spec (ws := wsX5_nodesThatAre) B.pre
  have hown : s.vm.findClass RX5 = some m.cls := findClass_of_methodNamed B.named
  have hlocks := B.notSynchronized
  subst hsz
  have hD := hD0.self (sz := s.heap.size)
  generalize hAe : va_A (W_X5 cI m0 m1 m2 m3 m4 m5 m6 m7 m8 m9 m10 m11 mr mc me mw mh mn mu ms mt md mz mi mk mo mj ml) s.heap.size = A at hD ⊢
  have hA : ∀ q : Nat, s.heap.size ≤ q → A q := fun q h => by rw [← hAe]; exact Or.inr h
  have hS : va_S A s.heap s.heap [] := va_S.rf
  have hl := lv_entry ([.ref m0, .int a1]) (n := 4) (Nat.le_of_ble_eq_true rfl)
  rw [lg_entry_eq]
  generalize (lg_sl ([.ref m0, .int a1]) ++ List.replicate (4 - (lg_sl ([.ref m0, .int a1])).length) Slot.unset).toArray = ls at hl ⊢
  have hl : lv_has ls 4 [(0, .ref m0), (1, .int a1)] := hl
  have he := f_X5_nodesThatAre.eq_1 mr me mw mu mk mo mj a1
  replace hp := Eq.mp (p_X5_nodesThatAre.eq_1 ..) hp
  refine lv_aload_n hx hb dX5_nodesThatAre_0 rfl (lv_at hl 0 rfl) ?_
  refine lv_iload_n hx hb dX5_nodesThatAre_1 rfl (lv_at hl 1 rfl) ?_
  obtain ⟨j1, hJ1⟩ : ∃ z : Int32, z = (if a1 < 0 then (0 : Int32) else (if 3 < a1 then (0 : Int32) else (1 : Int32))) := ⟨_, rfl⟩
  rw [← hJ1] at he
  try dsimp only at he
  have hpJ1 := hp.1
  replace hp := hp.2 _  hJ1.symm
  have kont1 : (j1 = 0 ∨ j1 = 1) → ∀ (H : Heap) (locs : List Loc), va_P D vwCl (W_X5 cI m0 m1 m2 m3 m4 m5 m6 m7 m8 m9 m10 m11 mr mc me mw mh mn mu ms mt md mz mi mk mo mj ml) H → va_D A (W_X5 cI m0 m1 m2 m3 m4 m5 m6 m7 m8 m9 m10 m11 mr mc me mw mh mn mu ms mt md mz mi mk mo mj ml) → va_S A s.heap H locs → ∀ ls : Array Slot, lv_has ls 4 [(0, .ref m0), (1, .int a1)] → W p l e (headSpec wsX5_nodesThatAre rm_X5_nodesThatAre).room s m ([.ref m0, .int a1] : List Value).toArray below meth c H locs 0 0 (MQ below (Q_X5_nodesThatAre D cI m0 m1 m2 m3 m4 m5 m6 m7 m8 m9 m10 m11 mr mc me mw mh mn mu ms mt md mz mi mk mo mj ml a1 A) ([.ref m0, .int a1] : List Value).toArray s 0 0 A) (F0 m 15 ls [.int j1, .ref m0]) := by
    intro hb1 H locs hP hD hS ls hl
    refine lv_iconst (v := 1) hx hb dX5_nodesThatAre_15 (by decide) ?_
    refine k_calli (S := Int32) (wc := (W_X5 cI m0 m1 m2 m3 m4 m5 m6 m7 m8 m9 m10 m11 mr mc me mw mh mn mu ms mt md mz mi mk mo mj ml)) (wr := ([] : va_W)) (w1 := fun u => (W_X5 cI m0 m1 m2 m3 m4 m5 m6 m7 m8 m9 m10 m11 mr mc me mw u mn mu ms mt md mz mi mk mo mj ml)) (fun u => (W_X5 cI m0 m1 m2 m3 m4 m5 m6 m7 m8 m9 m10 m11 mr mc me mw u mn mu ms mt md mz mi mk mo mj ml)) hP hK hD hN hS hA [0, 1, 2, 3, 4, 5, 6, 7, 8, 9, 10, 11] [] rfl rfl (by decide) (by decide) (by decide) [0, 1, 2, 3, 4, 5, 6, 7, 8, 9, 10, 11] (by decide) (fun _ => rfl) (fun hg => va_runV (As := [.int j1, .int 1]) (rest := []) ⟨hx, hb, hml, hown, hts⟩ (c_X5_goes l D cI m0 m1 m2 m3 m4 m5 m6 m7 m8 m9 m10 m11 mr mc me mw mh mn mu ms mt md mz mi mk mo mj ml _ j1 1) (cwV 2 hts gX5_nodesThatAre_X5_goes rfl rfl rfl (by decide +kernel) ⟨Nat.le_of_ble_eq_true rfl, Nat.le_of_ble_eq_true rfl⟩) ⟨PW.blind, va_recv hK hP (ci := 5) (q0 := 0) rfl rfl, fun U hU hW => ⟨rfl, hg U hU hW⟩⟩ rfl rfl hl.1 rfl (lv_room (Nat.le_of_ble_eq_true rfl)) dX5_nodesThatAre_16 ⟨Nat.le_of_ble_eq_true rfl, Nat.le_of_ble_eq_true rfl⟩) (fun r4 u H locs hw hP hD hS => ?_)
    obtain ⟨u4_0, rfl⟩ : ∃ z, z = u := ⟨_, rfl⟩
    obtain ⟨hw, hb4⟩ := hw
    rw [hw] at he
    try dsimp only at he
    replace hp := hp r4 u4_0 hw
    have hP : va_P D vwCl (W_X5 cI m0 m1 m2 m3 m4 m5 m6 m7 m8 m9 m10 m11 mr mc me mw u4_0 mn mu ms mt md mz mi mk mo mj ml) H := hP
    have hD : va_D A (W_X5 cI m0 m1 m2 m3 m4 m5 m6 m7 m8 m9 m10 m11 mr mc me mw u4_0 mn mu ms mt md mz mi mk mo mj ml) := hD
    refine lv_if_ne (tgt := 24) hx hb dX5_nodesThatAre_19 (by decide) (fun c5 => ?_) (fun c5 => ?_)
    · replace hp := hp.2 c5
      replace he := he.trans (if_neg c5)
      refine lv_iconst (v := 0) hx hb dX5_nodesThatAre_24 (by decide) ?_
      refine lv_istore_n (lv' := [(2, .int 0), (0, .ref m0), (1, .int a1)]) hx hb dX5_nodesThatAre_25 rfl hl (by decide) rfl (fun ls hl => ?_)
      refine lv_iconst (v := 0) hx hb dX5_nodesThatAre_26 (by decide) ?_
      refine lv_istore_n (lv' := [(3, .int 0), (2, .int 0), (0, .ref m0), (1, .int a1)]) hx hb dX5_nodesThatAre_27 rfl hl (by decide) rfl (fun ls hl => ?_)
      obtain ⟨⟨r6_v28_2, r6_v28_3⟩, hL6⟩ : ∃ z, z = f_X5_nodesThatAre_L28 mr me mw mu mk mo mj a1 15 (0 : Int32) (0 : Int32) := ⟨_, rfl⟩
      rw [← hL6] at he
      try dsimp only at he
      have hpL6 := hp.1
      replace hp := hp.2 _ _ hL6.symm
      have kont6 : ∀ (x6_v28_2 : Int32) (x6_v28_3 : Int32), (r6_v28_2, r6_v28_3) = (x6_v28_2, x6_v28_3) → ∀ (H : Heap) (locs : List Loc), va_P D vwCl (W_X5 cI m0 m1 m2 m3 m4 m5 m6 m7 m8 m9 m10 m11 mr mc me mw u4_0 mn mu ms mt md mz mi mk mo mj ml) H → va_D A (W_X5 cI m0 m1 m2 m3 m4 m5 m6 m7 m8 m9 m10 m11 mr mc me mw u4_0 mn mu ms mt md mz mi mk mo mj ml) → va_S A s.heap H locs → ∀ ls : Array Slot, lv_has ls 4 [(2, .int x6_v28_2)] → W p l e (headSpec wsX5_nodesThatAre rm_X5_nodesThatAre).room s m ([.ref m0, .int a1] : List Value).toArray below meth c H locs 0 0 (MQ below (Q_X5_nodesThatAre D cI m0 m1 m2 m3 m4 m5 m6 m7 m8 m9 m10 m11 mr mc me mw mh mn mu ms mt md mz mi mk mo mj ml a1 A) ([.ref m0, .int a1] : List Value).toArray s 0 0 A) (F0 m 57 ls []) := by
        intro x6_v28_2 x6_v28_3 hxe H locs hP hD hS ls hl
        simp only [Prod.mk.injEq] at hxe
        obtain ⟨rfl, rfl⟩ := hxe
        refine lv_iload_n hx hb dX5_nodesThatAre_57 rfl (lv_at hl 0 rfl) ?_
        exact W.iret (v := r6_v28_2) hx hb hr (fun t ht hW => ⟨⟨r6_v28_2, u4_0, rfl, he, by rw [ht]; exact hP, va_K.moved hW.alike hK, hD⟩, hS.F ht⟩) hS.2.2 dX5_nodesThatAre_58
      have loop6 : ∀ (n : Nat) (v28_2 : Int32) (v28_3 : Int32), p_X5_nodesThatAre_L28 mr me mw mu mk mo mj a1 n v28_2 v28_3 → (r6_v28_2, r6_v28_3) = f_X5_nodesThatAre_L28 mr me mw mu mk mo mj a1 n v28_2 v28_3 → ∀ (H : Heap) (locs : List Loc), va_P D vwCl (W_X5 cI m0 m1 m2 m3 m4 m5 m6 m7 m8 m9 m10 m11 mr mc me mw u4_0 mn mu ms mt md mz mi mk mo mj ml) H → va_D A (W_X5 cI m0 m1 m2 m3 m4 m5 m6 m7 m8 m9 m10 m11 mr mc me mw u4_0 mn mu ms mt md mz mi mk mo mj ml) → va_S A s.heap H locs → ∀ ls : Array Slot, lv_has ls 4 [(3, .int v28_3), (2, .int v28_2), (0, .ref m0), (1, .int a1)] → W p l e (headSpec wsX5_nodesThatAre rm_X5_nodesThatAre).room s m ([.ref m0, .int a1] : List Value).toArray below meth c H locs 0 0 (MQ below (Q_X5_nodesThatAre D cI m0 m1 m2 m3 m4 m5 m6 m7 m8 m9 m10 m11 mr mc me mw mh mn mu ms mt md mz mi mk mo mj ml a1 A) ([.ref m0, .int a1] : List Value).toArray s 0 0 A) (F0 m 28 ls []) := by
        intro n
        induction n with
        | zero => exact fun _ _ hp => hp.elim
        | succ n ih =>
          intro v28_2 v28_3 hp he H locs hP hD hS ls hl
          replace hp := Eq.mp (p_X5_nodesThatAre_L28.eq_2 ..) hp
          replace he := he.trans (f_X5_nodesThatAre_L28.eq_2 ..)
          refine lv_iload_n hx hb dX5_nodesThatAre_28 rfl (lv_at hl 0 rfl) ?_
          refine lv_bipush (v := 14) hx hb dX5_nodesThatAre_29 (by decide) ?_
          refine lv_icmp_ge (tgt := 57) hx hb dX5_nodesThatAre_31 (by decide) (fun c7 => ?_) (fun c7 => ?_)
          · replace hp := hp.1 c7
            replace he := he.trans (if_pos c7)
            exact kont6 _ _ he _ _ hP hD hS _ (lv_sub hl [1] rfl)
          · replace hp := hp.2 c7
            replace he := he.trans (if_neg c7)
            refine lv_iload_n hx hb dX5_nodesThatAre_34 rfl (lv_at hl 1 rfl) ?_
            refine lv_aload_n hx hb dX5_nodesThatAre_35 rfl (lv_at hl 2 rfl) ?_
            refine lv_iload_n hx hb dX5_nodesThatAre_36 rfl (lv_at hl 0 rfl) ?_
            have hq8 := hp.1
            replace hp := hp.2
            refine k_calli (S := Unit) (wc := (W_X5 cI m0 m1 m2 m3 m4 m5 m6 m7 m8 m9 m10 m11 mr mc me mw u4_0 mn mu ms mt md mz mi mk mo mj ml)) (wr := ([] : va_W)) (w1 := fun u => (W_X5 cI m0 m1 m2 m3 m4 m5 m6 m7 m8 m9 m10 m11 mr mc me mw u4_0 mn mu ms mt md mz mi mk mo mj ml)) (fun u => (W_X5 cI m0 m1 m2 m3 m4 m5 m6 m7 m8 m9 m10 m11 mr mc me mw u4_0 mn mu ms mt md mz mi mk mo mj ml)) hP hK hD hN hS hA [0, 1, 2, 3, 4, 5, 6, 7, 8, 9, 10, 11] [] rfl rfl (by decide) (by decide) (by decide) [0, 1, 2, 3, 4, 5, 6, 7, 8, 9, 10, 11] (by decide) (fun _ => rfl) (fun hg => va_runV (As := [.int v28_3]) (rest := [.int v28_2]) ⟨hx, hb, hml, hown, hts⟩ (c_X5_stateOf l D cI m0 m1 m2 m3 m4 m5 m6 m7 m8 m9 m10 m11 mr mc me mw u4_0 mn mu ms mt md mz mi mk mo mj ml _ v28_3 hq8) (cwV 1 hts gX5_nodesThatAre_X5_stateOf rfl rfl rfl (by decide +kernel) ⟨Nat.le_of_ble_eq_true rfl, Nat.le_of_ble_eq_true rfl⟩) ⟨PW.blind, va_recv hK hP (ci := 5) (q0 := 0) rfl rfl, fun U hU hW => ⟨rfl, hg U hU hW⟩⟩ rfl rfl hl.1 rfl (lv_room (Nat.le_of_ble_eq_true rfl)) dX5_nodesThatAre_37 ⟨Nat.le_of_ble_eq_true rfl, Nat.le_of_ble_eq_true rfl⟩) (fun r8 u H locs hw hP hD hS => ?_)
            subst hw
            refine lv_iload_n hx hb dX5_nodesThatAre_40 rfl (lv_at hl 3 rfl) ?_
            obtain ⟨j9, hJ9⟩ : ∃ z : Int32, z = (if (f_X5_stateOf mr me mw mu mk mo mj v28_3) = a1 then (1 : Int32) else (0 : Int32)) := ⟨_, rfl⟩
            rw [← hJ9] at he
            try dsimp only at he
            have hpJ9 := hp.1
            replace hp := hp.2 _  hJ9.symm
            have kont9 : (j9 = 0 ∨ j9 = 1) → ∀ (H : Heap) (locs : List Loc), va_P D vwCl (W_X5 cI m0 m1 m2 m3 m4 m5 m6 m7 m8 m9 m10 m11 mr mc me mw u4_0 mn mu ms mt md mz mi mk mo mj ml) H → va_D A (W_X5 cI m0 m1 m2 m3 m4 m5 m6 m7 m8 m9 m10 m11 mr mc me mw u4_0 mn mu ms mt md mz mi mk mo mj ml) → va_S A s.heap H locs → ∀ ls : Array Slot, lv_has ls 4 [(3, .int v28_3), (0, .ref m0), (1, .int a1)] → W p l e (headSpec wsX5_nodesThatAre rm_X5_nodesThatAre).room s m ([.ref m0, .int a1] : List Value).toArray below meth c H locs 0 0 (MQ below (Q_X5_nodesThatAre D cI m0 m1 m2 m3 m4 m5 m6 m7 m8 m9 m10 m11 mr mc me mw mh mn mu ms mt md mz mi mk mo mj ml a1 A) ([.ref m0, .int a1] : List Value).toArray s 0 0 A) (F0 m 49 ls [.int j9, .int v28_2]) := by
              intro hb9 H locs hP hD hS ls hl
              refine lv_iadd hx hb dX5_nodesThatAre_49 ?_
              refine lv_istore_n (lv' := [(2, .int (v28_2 + j9)), (3, .int v28_3), (0, .ref m0), (1, .int a1)]) hx hb dX5_nodesThatAre_50 rfl hl (by decide) rfl (fun ls hl => ?_)
              refine lv_iinc (v := (v28_3 + 1)) (lv' := [(3, .int (v28_3 + 1)), (2, .int (v28_2 + j9)), (0, .ref m0), (1, .int a1)]) hx hb dX5_nodesThatAre_51 hl (k := 1) rfl rfl (by decide) rfl (fun ls hl => ?_)
              refine lv_goto (tgt := 28) hx hb dX5_nodesThatAre_54 (by decide) ?_
              exact ih _ _ hp he _ _ hP hD hS _ (lv_sub hl [0, 1, 2, 3] rfl)
            replace he := hJ9
            replace hp := hpJ9
            refine lv_icmp_ne (tgt := 48) hx hb dX5_nodesThatAre_41 (by decide) (fun c10 => ?_) (fun c10 => ?_)
            · replace hp := hp.2 c10
              replace he := he.trans (if_neg c10)
              refine lv_iconst (v := 0) hx hb dX5_nodesThatAre_48 (by decide) ?_
              subst he
              exact kont9 (Or.inl rfl) _ _ hP hD hS _ (lv_sub hl [0, 2, 3] rfl)
            · replace hp := hp.1 c10
              replace he := he.trans (if_pos c10)
              refine lv_iconst (v := 1) hx hb dX5_nodesThatAre_44 (by decide) ?_
              refine lv_goto (tgt := 49) hx hb dX5_nodesThatAre_45 (by decide) ?_
              subst he
              exact kont9 (Or.inr rfl) _ _ hP hD hS _ (lv_sub hl [0, 2, 3] rfl)
      exact loop6 15 (0 : Int32) (0 : Int32) hpL6 hL6 _ _ hP hD hS _ (lv_sub hl [0, 1, 2, 3] rfl)
    · replace hp := hp.1 c5
      replace he := he.trans (if_pos c5)
      refine lv_iconst (v := 0) hx hb dX5_nodesThatAre_22 (by decide) ?_
      exact W.iret (v := 0) hx hb hr (fun t ht hW => ⟨⟨0, u4_0, rfl, he, by rw [ht]; exact hP, va_K.moved hW.alike hK, hD⟩, hS.F ht⟩) hS.2.2 dX5_nodesThatAre_23
  replace he := hJ1
  replace hp := hpJ1
  refine lv_if_lt (tgt := 14) hx hb dX5_nodesThatAre_2 (by decide) (fun c2 => ?_) (fun c2 => ?_)
  · replace hp := hp.1 c2
    replace he := he.trans (if_pos c2)
    refine lv_iconst (v := 0) hx hb dX5_nodesThatAre_14 (by decide) ?_
    subst he
    exact kont1 (Or.inl rfl) _ _ hP hD hS _ (lv_sub hl [0, 1] rfl)
  · replace hp := hp.2 c2
    replace he := he.trans (if_neg c2)
    refine lv_iload_n hx hb dX5_nodesThatAre_5 rfl (lv_at hl 1 rfl) ?_
    refine lv_iconst (v := 3) hx hb dX5_nodesThatAre_6 (by decide) ?_
    refine lv_icmp_gt (tgt := 14) hx hb dX5_nodesThatAre_7 (by decide) (fun c3 => ?_) (fun c3 => ?_)
    · replace hp := hp.1 c3
      replace he := he.trans (if_pos c3)
      refine lv_iconst (v := 0) hx hb dX5_nodesThatAre_14 (by decide) ?_
      subst he
      exact kont1 (Or.inl rfl) _ _ hP hD hS _ (lv_sub hl [0, 1] rfl)
    · replace hp := hp.2 c3
      replace he := he.trans (if_neg c3)
      refine lv_iconst (v := 1) hx hb dX5_nodesThatAre_10 (by decide) ?_
      refine lv_goto (tgt := 15) hx hb dX5_nodesThatAre_11 (by decide) ?_
      subst he
      exact kont1 (Or.inr rfl) _ _ hP hD hS _ (lv_sub hl [0, 1] rfl)
abbrev rm_X5_raises : Room := { frames := 1, cells := 0, slots := 0, locals := 24 }
abbrev Q_X5_raises (D : va_G) (cI : ClassId) (m0 m1 m2 m3 m4 m5 m6 m7 m8 m9 m10 m11 : Nat) (mr : Int32) (mc : Int32) (me : Int32) (mw : Int32) (mh : Int32) (mn : AA) (mu : AA) (ms : AA) (mt : AA) (md : AA) (mz : AA) (mi : AA) (mk : AA) (mo : AA) (mj : AA) (ml : AA) (a1 a2 : Int32) (A : Nat → Prop) : Array Value → State → Outcome → State → Prop := va_Qi (S := Int32) (fun r u => f_X5_raises me mw mk mo mj a1 a2 = (r, u)) (fun u t => QW D [(cI, .int)] A (W_X5 cI m0 m1 m2 m3 m4 m5 m6 m7 m8 m9 m10 m11 mr mc me mw u mn mu ms mt md mz mi mk mo mj ml) t) A
set_option maxHeartbeats 4000000 in
set_option maxRecDepth 100000 in
theorem c_X5_raises (l : Launch)  (D : va_G) (cI : ClassId) (m0 m1 m2 m3 m4 m5 m6 m7 m8 m9 m10 m11 : Nat) (mr : Int32) (mc : Int32) (me : Int32) (mw : Int32) (mh : Int32) (mn : AA) (mu : AA) (ms : AA) (mt : AA) (md : AA) (mz : AA) (mi : AA) (mk : AA) (mo : AA) (mj : AA) (ml : AA) (sz : Nat) (a1 a2 : Int32) (hp : p_X5_raises me mw mk mo mj a1 a2) : Met l yX5_raises wsX5_raises rm_X5_raises (va_Pc [.ref m0, .int a1, .int a2] (PW D [(cI, .int)] sz (W_X5 cI m0 m1 m2 m3 m4 m5 m6 m7 m8 m9 m10 m11 mr mc me mw mh mn mu ms mt md mz mi mk mo mj ml))) (Q_X5_raises D cI m0 m1 m2 m3 m4 m5 m6 m7 m8 m9 m10 m11 mr mc me mw mh mn mu ms mt md mz mi mk mo mj ml a1 a2 (va_A (W_X5 cI m0 m1 m2 m3 m4 m5 m6 m7 m8 m9 m10 m11 mr mc me mw mh mn mu ms mt md mz mi mk mo mj ml) sz)) 0 0 (va_A (W_X5 cI m0 m1 m2 m3 m4 m5 m6 m7 m8 m9 m10 m11 mr mc me mw mh mn mu ms mt md mz mi mk mo mj ml) sz) := by
  refine Met.ofW (cc := cX5_raises) (maxL := 3) (ret := (some .int)) (by decide) rfl ?_
  intro p e s m args below meth c s₁ B hml hv
  obtain ⟨rfl, hsz, hP, hK, hD0, hN⟩ := hv
  have hx := B.exec
  have hb := B.bytes
  have hr := B.returns
  have hts := atoms_spec (ws := wsX5_raises) B.pre
  have hown : s.vm.findClass RX5 = some m.cls := findClass_of_methodNamed B.named
  have hlocks := B.notSynchronized
  subst hsz
  have hD := hD0.self (sz := s.heap.size)
  generalize hAe : va_A (W_X5 cI m0 m1 m2 m3 m4 m5 m6 m7 m8 m9 m10 m11 mr mc me mw mh mn mu ms mt md mz mi mk mo mj ml) s.heap.size = A at hD ⊢
  have hA : ∀ q : Nat, s.heap.size ≤ q → A q := fun q h => by rw [← hAe]; exact Or.inr h
  have hS : va_S A s.heap s.heap [] := va_S.rf
  have hl := lv_entry ([.ref m0, .int a1, .int a2]) (n := 3) (Nat.le_of_ble_eq_true rfl)
  rw [lg_entry_eq]
  generalize (lg_sl ([.ref m0, .int a1, .int a2]) ++ List.replicate (3 - (lg_sl ([.ref m0, .int a1, .int a2])).length) Slot.unset).toArray = ls at hl ⊢
  have hl : lv_has ls 3 [(0, .ref m0), (1, .int a1), (2, .int a2)] := hl
  have he := f_X5_raises.eq_1 me mw mk mo mj a1 a2
  replace hp := Eq.mp (p_X5_raises.eq_1 ..) hp
  refine lv_aload_n hx hb dX5_raises_0 rfl (lv_at hl 0 rfl) ?_
  refine lv_iload_n hx hb dX5_raises_1 rfl (lv_at hl 1 rfl) ?_
  refine k_calli (S := Unit) (wc := ([] : va_W)) (wr := (W_X5 cI m0 m1 m2 m3 m4 m5 m6 m7 m8 m9 m10 m11 mr mc me mw mh mn mu ms mt md mz mi mk mo mj ml)) (w1 := fun u => ([] : va_W)) (fun u => (W_X5 cI m0 m1 m2 m3 m4 m5 m6 m7 m8 m9 m10 m11 mr mc me mw mh mn mu ms mt md mz mi mk mo mj ml)) hP hK hD hN hS hA [] [0, 1, 2, 3, 4, 5, 6, 7, 8, 9, 10, 11] rfl rfl (by decide) (by decide) (by decide) [0, 1, 2, 3, 4, 5, 6, 7, 8, 9, 10, 11] (by decide) (fun _ => rfl) (fun hg => va_runS (As := [.int a1]) (rest := [.ref m0]) ⟨hx, hb, hml, hown, hts⟩ (c_X5_isNode l D cI _ a1) (va_cwS 1 hts gX5_raises_X5_isNode rfl rfl rfl (by decide +kernel) ⟨Nat.le_of_ble_eq_true rfl, Nat.le_of_ble_eq_true rfl⟩) ⟨PW.blind, fun U hU hW => ⟨rfl, hg U hU hW⟩⟩ rfl rfl hl.1 rfl (lv_room (Nat.le_of_ble_eq_true rfl)) dX5_raises_2 ⟨Nat.le_of_ble_eq_true rfl, Nat.le_of_ble_eq_true rfl⟩) (fun r1 u H locs hw hP hD hS => ?_)
  obtain ⟨hw, hb1⟩ := hw
  subst hw
  refine lv_iload_n hx hb dX5_raises_5 rfl (lv_at hl 2 rfl) ?_
  refine lv_iconst (v := 1) hx hb dX5_raises_6 (by decide) ?_
  obtain ⟨j2, hJ2⟩ : ∃ z : Int32, z = (if a2 < 1 then (0 : Int32) else (if 1000 < a2 then (0 : Int32) else (1 : Int32))) := ⟨_, rfl⟩
  rw [← hJ2] at he
  try dsimp only at he
  have hpJ2 := hp.1
  replace hp := hp.2 _  hJ2.symm
  have kont2 : (j2 = 0 ∨ j2 = 1) → ∀ (H : Heap) (locs : List Loc), va_P D vwCl (W_X5 cI m0 m1 m2 m3 m4 m5 m6 m7 m8 m9 m10 m11 mr mc me mw mh mn mu ms mt md mz mi mk mo mj ml) H → va_D A (W_X5 cI m0 m1 m2 m3 m4 m5 m6 m7 m8 m9 m10 m11 mr mc me mw mh mn mu ms mt md mz mi mk mo mj ml) → va_S A s.heap H locs → ∀ ls : Array Slot, lv_has ls 3 [(0, .ref m0), (1, .int a1), (2, .int a2)] → W p l e (headSpec wsX5_raises rm_X5_raises).room s m ([.ref m0, .int a1, .int a2] : List Value).toArray below meth c H locs 0 0 (MQ below (Q_X5_raises D cI m0 m1 m2 m3 m4 m5 m6 m7 m8 m9 m10 m11 mr mc me mw mh mn mu ms mt md mz mi mk mo mj ml a1 a2 A) ([.ref m0, .int a1, .int a2] : List Value).toArray s 0 0 A) (F0 m 22 ls [.int j2, .int (f_X5_isNode a1), .ref m0]) := by
    intro hb2 H locs hP hD hS ls hl
    refine k_calli (S := Int32) (wc := (W_X5 cI m0 m1 m2 m3 m4 m5 m6 m7 m8 m9 m10 m11 mr mc me mw mh mn mu ms mt md mz mi mk mo mj ml)) (wr := ([] : va_W)) (w1 := fun u => (W_X5 cI m0 m1 m2 m3 m4 m5 m6 m7 m8 m9 m10 m11 mr mc me mw u mn mu ms mt md mz mi mk mo mj ml)) (fun u => (W_X5 cI m0 m1 m2 m3 m4 m5 m6 m7 m8 m9 m10 m11 mr mc me mw u mn mu ms mt md mz mi mk mo mj ml)) hP hK hD hN hS hA [0, 1, 2, 3, 4, 5, 6, 7, 8, 9, 10, 11] [] rfl rfl (by decide) (by decide) (by decide) [0, 1, 2, 3, 4, 5, 6, 7, 8, 9, 10, 11] (by decide) (fun _ => rfl) (fun hg => va_runV (As := [.int (f_X5_isNode a1), .int j2]) (rest := []) ⟨hx, hb, hml, hown, hts⟩ (c_X5_goes l D cI m0 m1 m2 m3 m4 m5 m6 m7 m8 m9 m10 m11 mr mc me mw mh mn mu ms mt md mz mi mk mo mj ml _ (f_X5_isNode a1) j2) (cwV 2 hts gX5_raises_X5_goes rfl rfl rfl (by decide +kernel) ⟨Nat.le_of_ble_eq_true rfl, Nat.le_of_ble_eq_true rfl⟩) ⟨PW.blind, va_recv hK hP (ci := 5) (q0 := 0) rfl rfl, fun U hU hW => ⟨rfl, hg U hU hW⟩⟩ rfl rfl hl.1 rfl (lv_room (Nat.le_of_ble_eq_true rfl)) dX5_raises_22 ⟨Nat.le_of_ble_eq_true rfl, Nat.le_of_ble_eq_true rfl⟩) (fun r5 u H locs hw hP hD hS => ?_)
    obtain ⟨u5_0, rfl⟩ : ∃ z, z = u := ⟨_, rfl⟩
    obtain ⟨hw, hb5⟩ := hw
    rw [hw] at he
    try dsimp only at he
    replace hp := hp r5 u5_0 hw
    have hP : va_P D vwCl (W_X5 cI m0 m1 m2 m3 m4 m5 m6 m7 m8 m9 m10 m11 mr mc me mw u5_0 mn mu ms mt md mz mi mk mo mj ml) H := hP
    have hD : va_D A (W_X5 cI m0 m1 m2 m3 m4 m5 m6 m7 m8 m9 m10 m11 mr mc me mw u5_0 mn mu ms mt md mz mi mk mo mj ml) := hD
    obtain ⟨j6, hJ6⟩ : ∃ z : Int32, z = (if r5 = 0 then (0 : Int32) else (f_X5_raisesOf me mw mk mo mj a1 a2)) := ⟨_, rfl⟩
    rw [← hJ6] at he
    try dsimp only at he
    have hpJ6 := hp.1
    replace hp := hp.2 _  hJ6.symm
    have kont6 : ∀ (H : Heap) (locs : List Loc), va_P D vwCl (W_X5 cI m0 m1 m2 m3 m4 m5 m6 m7 m8 m9 m10 m11 mr mc me mw u5_0 mn mu ms mt md mz mi mk mo mj ml) H → va_D A (W_X5 cI m0 m1 m2 m3 m4 m5 m6 m7 m8 m9 m10 m11 mr mc me mw u5_0 mn mu ms mt md mz mi mk mo mj ml) → va_S A s.heap H locs → ∀ ls : Array Slot, lv_has ls 3 [] → W p l e (headSpec wsX5_raises rm_X5_raises).room s m ([.ref m0, .int a1, .int a2] : List Value).toArray below meth c H locs 0 0 (MQ below (Q_X5_raises D cI m0 m1 m2 m3 m4 m5 m6 m7 m8 m9 m10 m11 mr mc me mw mh mn mu ms mt md mz mi mk mo mj ml a1 a2 A) ([.ref m0, .int a1, .int a2] : List Value).toArray s 0 0 A) (F0 m 38 ls [.int j6]) := by
      intro H locs hP hD hS ls hl
      exact W.iret (v := j6) hx hb hr (fun t ht hW => ⟨⟨j6, u5_0, rfl, he, by rw [ht]; exact hP, va_K.moved hW.alike hK, hD⟩, hS.F ht⟩) hS.2.2 dX5_raises_38
    replace he := hJ6
    replace hp := hpJ6
    refine lv_if_eq (tgt := 37) hx hb dX5_raises_25 (by decide) (fun c7 => ?_) (fun c7 => ?_)
    · replace hp := hp.1 c7
      replace he := he.trans (if_pos c7)
      refine lv_iconst (v := 0) hx hb dX5_raises_37 (by decide) ?_
      subst he
      exact kont6 _ _ hP hD hS _ (lv_sub hl [] rfl)
    · replace hp := hp.2 c7
      replace he := he.trans (if_neg c7)
      refine lv_aload_n hx hb dX5_raises_28 rfl (lv_at hl 0 rfl) ?_
      refine lv_iload_n hx hb dX5_raises_29 rfl (lv_at hl 1 rfl) ?_
      refine lv_iload_n hx hb dX5_raises_30 rfl (lv_at hl 2 rfl) ?_
      have hq8 := hp.1
      replace hp := hp.2
      refine k_calli (S := Unit) (wc := (W_X5 cI m0 m1 m2 m3 m4 m5 m6 m7 m8 m9 m10 m11 mr mc me mw u5_0 mn mu ms mt md mz mi mk mo mj ml)) (wr := ([] : va_W)) (w1 := fun u => (W_X5 cI m0 m1 m2 m3 m4 m5 m6 m7 m8 m9 m10 m11 mr mc me mw u5_0 mn mu ms mt md mz mi mk mo mj ml)) (fun u => (W_X5 cI m0 m1 m2 m3 m4 m5 m6 m7 m8 m9 m10 m11 mr mc me mw u5_0 mn mu ms mt md mz mi mk mo mj ml)) hP hK hD hN hS hA [0, 1, 2, 3, 4, 5, 6, 7, 8, 9, 10, 11] [] rfl rfl (by decide) (by decide) (by decide) [0, 1, 2, 3, 4, 5, 6, 7, 8, 9, 10, 11] (by decide) (fun _ => rfl) (fun hg => va_runV (As := [.int a1, .int a2]) (rest := []) ⟨hx, hb, hml, hown, hts⟩ (c_X5_raisesOf l D cI m0 m1 m2 m3 m4 m5 m6 m7 m8 m9 m10 m11 mr mc me mw u5_0 mn mu ms mt md mz mi mk mo mj ml _ a1 a2 hq8) (cwV 2 hts gX5_raises_X5_raisesOf rfl rfl rfl (by decide +kernel) ⟨Nat.le_of_ble_eq_true rfl, Nat.le_of_ble_eq_true rfl⟩) ⟨PW.blind, va_recv hK hP (ci := 5) (q0 := 0) rfl rfl, fun U hU hW => ⟨rfl, hg U hU hW⟩⟩ rfl rfl hl.1 rfl (lv_room (Nat.le_of_ble_eq_true rfl)) dX5_raises_31 ⟨Nat.le_of_ble_eq_true rfl, Nat.le_of_ble_eq_true rfl⟩) (fun r8 u H locs hw hP hD hS => ?_)
      subst hw
      refine lv_goto (tgt := 38) hx hb dX5_raises_34 (by decide) ?_
      subst he
      exact kont6 _ _ hP hD hS _ (lv_sub hl [] rfl)
  replace he := hJ2
  replace hp := hpJ2
  refine lv_icmp_lt (tgt := 21) hx hb dX5_raises_7 (by decide) (fun c3 => ?_) (fun c3 => ?_)
  · replace hp := hp.1 c3
    replace he := he.trans (if_pos c3)
    refine lv_iconst (v := 0) hx hb dX5_raises_21 (by decide) ?_
    subst he
    exact kont2 (Or.inl rfl) _ _ hP hD hS _ (lv_sub hl [0, 1, 2] rfl)
  · replace hp := hp.2 c3
    replace he := he.trans (if_neg c3)
    refine lv_iload_n hx hb dX5_raises_10 rfl (lv_at hl 2 rfl) ?_
    refine lv_sipush (v := 1000) hx hb dX5_raises_11 (by decide) ?_
    refine lv_icmp_gt (tgt := 21) hx hb dX5_raises_14 (by decide) (fun c4 => ?_) (fun c4 => ?_)
    · replace hp := hp.1 c4
      replace he := he.trans (if_pos c4)
      refine lv_iconst (v := 0) hx hb dX5_raises_21 (by decide) ?_
      subst he
      exact kont2 (Or.inl rfl) _ _ hP hD hS _ (lv_sub hl [0, 1, 2] rfl)
    · replace hp := hp.2 c4
      replace he := he.trans (if_neg c4)
      refine lv_iconst (v := 1) hx hb dX5_raises_17 (by decide) ?_
      refine lv_goto (tgt := 22) hx hb dX5_raises_18 (by decide) ?_
      subst he
      exact kont2 (Or.inr rfl) _ _ hP hD hS _ (lv_sub hl [0, 1, 2] rfl)
abbrev rm_X5_isEvent : Room := { frames := 1, cells := 0, slots := 0, locals := 22 }
abbrev Q_X5_isEvent (D : va_G) (cI : ClassId) (m0 m1 m2 m3 m4 m5 m6 m7 m8 m9 m10 m11 : Nat) (mr : Int32) (mc : Int32) (me : Int32) (mw : Int32) (mh : Int32) (mn : AA) (mu : AA) (ms : AA) (mt : AA) (md : AA) (mz : AA) (mi : AA) (mk : AA) (mo : AA) (mj : AA) (ml : AA) (a1 : Int32) (A : Nat → Prop) : Array Value → State → Outcome → State → Prop := va_Qi (S := Int32) (fun r u => f_X5_isEvent me a1 = (r, u) ∧ (r = 0 ∨ r = 1)) (fun u t => QW D [(cI, .int)] A (W_X5 cI m0 m1 m2 m3 m4 m5 m6 m7 m8 m9 m10 m11 mr mc me mw u mn mu ms mt md mz mi mk mo mj ml) t) A
set_option maxHeartbeats 4000000 in
set_option maxRecDepth 100000 in
theorem c_X5_isEvent (l : Launch)  (D : va_G) (cI : ClassId) (m0 m1 m2 m3 m4 m5 m6 m7 m8 m9 m10 m11 : Nat) (mr : Int32) (mc : Int32) (me : Int32) (mw : Int32) (mh : Int32) (mn : AA) (mu : AA) (ms : AA) (mt : AA) (md : AA) (mz : AA) (mi : AA) (mk : AA) (mo : AA) (mj : AA) (ml : AA) (sz : Nat) (a1 : Int32) : Met l yX5_isEvent wsX5_isEvent rm_X5_isEvent (va_Pc [.ref m0, .int a1] (PW D [(cI, .int)] sz (W_X5 cI m0 m1 m2 m3 m4 m5 m6 m7 m8 m9 m10 m11 mr mc me mw mh mn mu ms mt md mz mi mk mo mj ml))) (Q_X5_isEvent D cI m0 m1 m2 m3 m4 m5 m6 m7 m8 m9 m10 m11 mr mc me mw mh mn mu ms mt md mz mi mk mo mj ml a1 (va_A (W_X5 cI m0 m1 m2 m3 m4 m5 m6 m7 m8 m9 m10 m11 mr mc me mw mh mn mu ms mt md mz mi mk mo mj ml) sz)) 0 0 (va_A (W_X5 cI m0 m1 m2 m3 m4 m5 m6 m7 m8 m9 m10 m11 mr mc me mw mh mn mu ms mt md mz mi mk mo mj ml) sz) := by
  refine Met.ofW (cc := cX5_isEvent) (maxL := 2) (ret := (some .boolean)) (by decide) rfl ?_
  intro p e s m args below meth c s₁ B hml hv
  obtain ⟨rfl, hsz, hP, hK, hD0, hN⟩ := hv
  have hx := B.exec
  have hb := B.bytes
  have hr := B.returns
  have hts := atoms_spec (ws := wsX5_isEvent) B.pre
  have hown : s.vm.findClass RX5 = some m.cls := findClass_of_methodNamed B.named
  have hlocks := B.notSynchronized
  subst hsz
  have hD := hD0.self (sz := s.heap.size)
  generalize hAe : va_A (W_X5 cI m0 m1 m2 m3 m4 m5 m6 m7 m8 m9 m10 m11 mr mc me mw mh mn mu ms mt md mz mi mk mo mj ml) s.heap.size = A at hD ⊢
  have hA : ∀ q : Nat, s.heap.size ≤ q → A q := fun q h => by rw [← hAe]; exact Or.inr h
  have hS : va_S A s.heap s.heap [] := va_S.rf
  have hl := lv_entry ([.ref m0, .int a1]) (n := 2) (Nat.le_of_ble_eq_true rfl)
  rw [lg_entry_eq]
  generalize (lg_sl ([.ref m0, .int a1]) ++ List.replicate (2 - (lg_sl ([.ref m0, .int a1])).length) Slot.unset).toArray = ls at hl ⊢
  have hl : lv_has ls 2 [(0, .ref m0), (1, .int a1)] := hl
  have he := f_X5_isEvent.eq_1 me a1
  refine lv_aload_n hx hb dX5_isEvent_0 rfl (lv_at hl 0 rfl) ?_
  refine lv_iload_n hx hb dX5_isEvent_1 rfl (lv_at hl 1 rfl) ?_
  obtain ⟨j1, hJ1⟩ : ∃ z : Int32, z = (if a1 < 0 then (0 : Int32) else (if me ≤ a1 then (0 : Int32) else (1 : Int32))) := ⟨_, rfl⟩
  rw [← hJ1] at he
  try dsimp only at he
  have kont1 : (j1 = 0 ∨ j1 = 1) → ∀ (H : Heap) (locs : List Loc), va_P D vwCl (W_X5 cI m0 m1 m2 m3 m4 m5 m6 m7 m8 m9 m10 m11 mr mc me mw mh mn mu ms mt md mz mi mk mo mj ml) H → va_D A (W_X5 cI m0 m1 m2 m3 m4 m5 m6 m7 m8 m9 m10 m11 mr mc me mw mh mn mu ms mt md mz mi mk mo mj ml) → va_S A s.heap H locs → ∀ ls : Array Slot, lv_has ls 2 [] → W p l e (headSpec wsX5_isEvent rm_X5_isEvent).room s m ([.ref m0, .int a1] : List Value).toArray below meth c H locs 0 0 (MQ below (Q_X5_isEvent D cI m0 m1 m2 m3 m4 m5 m6 m7 m8 m9 m10 m11 mr mc me mw mh mn mu ms mt md mz mi mk mo mj ml a1 A) ([.ref m0, .int a1] : List Value).toArray s 0 0 A) (F0 m 18 ls [.int j1, .ref m0]) := by
    intro hb1 H locs hP hD hS ls hl
    refine lv_iconst (v := 1) hx hb dX5_isEvent_18 (by decide) ?_
    refine k_calli (S := Int32) (wc := (W_X5 cI m0 m1 m2 m3 m4 m5 m6 m7 m8 m9 m10 m11 mr mc me mw mh mn mu ms mt md mz mi mk mo mj ml)) (wr := ([] : va_W)) (w1 := fun u => (W_X5 cI m0 m1 m2 m3 m4 m5 m6 m7 m8 m9 m10 m11 mr mc me mw u mn mu ms mt md mz mi mk mo mj ml)) (fun u => (W_X5 cI m0 m1 m2 m3 m4 m5 m6 m7 m8 m9 m10 m11 mr mc me mw u mn mu ms mt md mz mi mk mo mj ml)) hP hK hD hN hS hA [0, 1, 2, 3, 4, 5, 6, 7, 8, 9, 10, 11] [] rfl rfl (by decide) (by decide) (by decide) [0, 1, 2, 3, 4, 5, 6, 7, 8, 9, 10, 11] (by decide) (fun _ => rfl) (fun hg => va_runV (As := [.int j1, .int 1]) (rest := []) ⟨hx, hb, hml, hown, hts⟩ (c_X5_goes l D cI m0 m1 m2 m3 m4 m5 m6 m7 m8 m9 m10 m11 mr mc me mw mh mn mu ms mt md mz mi mk mo mj ml _ j1 1) (cwV 2 hts gX5_isEvent_X5_goes rfl rfl rfl (by decide +kernel) ⟨Nat.le_of_ble_eq_true rfl, Nat.le_of_ble_eq_true rfl⟩) ⟨PW.blind, va_recv hK hP (ci := 5) (q0 := 0) rfl rfl, fun U hU hW => ⟨rfl, hg U hU hW⟩⟩ rfl rfl hl.1 rfl (lv_room (Nat.le_of_ble_eq_true rfl)) dX5_isEvent_19 ⟨Nat.le_of_ble_eq_true rfl, Nat.le_of_ble_eq_true rfl⟩) (fun r4 u H locs hw hP hD hS => ?_)
    obtain ⟨u4_0, rfl⟩ : ∃ z, z = u := ⟨_, rfl⟩
    obtain ⟨hw, hb4⟩ := hw
    rw [hw] at he
    try dsimp only at he
    have hP : va_P D vwCl (W_X5 cI m0 m1 m2 m3 m4 m5 m6 m7 m8 m9 m10 m11 mr mc me mw u4_0 mn mu ms mt md mz mi mk mo mj ml) H := hP
    have hD : va_D A (W_X5 cI m0 m1 m2 m3 m4 m5 m6 m7 m8 m9 m10 m11 mr mc me mw u4_0 mn mu ms mt md mz mi mk mo mj ml) := hD
    exact W.zret (ty := .boolean) (v := r4) hx hb hr (by rcases hb4 with h9 | h9 <;> rw [h9] <;> rfl) (fun t ht hW => ⟨⟨r4, u4_0, rfl, ⟨he, hb4⟩, by rw [ht]; exact hP, va_K.moved hW.alike hK, hD⟩, hS.F ht⟩) hS.2.2 dX5_isEvent_22
  replace he := hJ1
  refine lv_if_lt (tgt := 17) hx hb dX5_isEvent_2 (by decide) (fun c2 => ?_) (fun c2 => ?_)
  · replace he := he.trans (if_pos c2)
    refine lv_iconst (v := 0) hx hb dX5_isEvent_17 (by decide) ?_
    subst he
    exact kont1 (Or.inl rfl) _ _ hP hD hS _ (lv_sub hl [] rfl)
  · replace he := he.trans (if_neg c2)
    refine lv_iload_n hx hb dX5_isEvent_5 rfl (lv_at hl 1 rfl) ?_
    refine lv_aload_n hx hb dX5_isEvent_6 rfl (lv_at hl 0 rfl) ?_
    refine va_get (D := D) (ci := 5) (v := .int me) (C := RX5) (T := TX5) (N := 16) hx hb hts (by decide +kernel) hown hK hP 0 rfl rfl 13 (by decide) (hts (.fieldLink RX5 65 "AlarmgroveModel" "events" "I") (by decide +kernel)) (fun _ h9 => h9) rfl dX5_isEvent_7 ?_
    refine lv_icmp_ge (tgt := 17) hx hb dX5_isEvent_10 (by decide) (fun c3 => ?_) (fun c3 => ?_)
    · replace he := he.trans (if_pos c3)
      refine lv_iconst (v := 0) hx hb dX5_isEvent_17 (by decide) ?_
      subst he
      exact kont1 (Or.inl rfl) _ _ hP hD hS _ (lv_sub hl [] rfl)
    · replace he := he.trans (if_neg c3)
      refine lv_iconst (v := 1) hx hb dX5_isEvent_13 (by decide) ?_
      refine lv_goto (tgt := 18) hx hb dX5_isEvent_14 (by decide) ?_
      subst he
      exact kont1 (Or.inr rfl) _ _ hP hD hS _ (lv_sub hl [] rfl)
abbrev rm_X5_events : Room := { frames := 0, cells := 0, slots := 0, locals := 0 }
abbrev Q_X5_events (D : va_G) (cI : ClassId) (m0 m1 m2 m3 m4 m5 m6 m7 m8 m9 m10 m11 : Nat) (mr : Int32) (mc : Int32) (me : Int32) (mw : Int32) (mh : Int32) (mn : AA) (mu : AA) (ms : AA) (mt : AA) (md : AA) (mz : AA) (mi : AA) (mk : AA) (mo : AA) (mj : AA) (ml : AA) (A : Nat → Prop) : Array Value → State → Outcome → State → Prop := va_Qi (S := Int32) (fun r u => f_X5_events me = (r, u)) (fun u t => QW D [(cI, .int)] A (W_X5 cI m0 m1 m2 m3 m4 m5 m6 m7 m8 m9 m10 m11 mr mc me mw u mn mu ms mt md mz mi mk mo mj ml) t) A
set_option maxHeartbeats 4000000 in
set_option maxRecDepth 100000 in
theorem c_X5_events (l : Launch)  (D : va_G) (cI : ClassId) (m0 m1 m2 m3 m4 m5 m6 m7 m8 m9 m10 m11 : Nat) (mr : Int32) (mc : Int32) (me : Int32) (mw : Int32) (mh : Int32) (mn : AA) (mu : AA) (ms : AA) (mt : AA) (md : AA) (mz : AA) (mi : AA) (mk : AA) (mo : AA) (mj : AA) (ml : AA) (sz : Nat) : Met l yX5_events wsX5_events rm_X5_events (va_Pc [.ref m0] (PW D [(cI, .int)] sz (W_X5 cI m0 m1 m2 m3 m4 m5 m6 m7 m8 m9 m10 m11 mr mc me mw mh mn mu ms mt md mz mi mk mo mj ml))) (Q_X5_events D cI m0 m1 m2 m3 m4 m5 m6 m7 m8 m9 m10 m11 mr mc me mw mh mn mu ms mt md mz mi mk mo mj ml (va_A (W_X5 cI m0 m1 m2 m3 m4 m5 m6 m7 m8 m9 m10 m11 mr mc me mw mh mn mu ms mt md mz mi mk mo mj ml) sz)) 0 0 (va_A (W_X5 cI m0 m1 m2 m3 m4 m5 m6 m7 m8 m9 m10 m11 mr mc me mw mh mn mu ms mt md mz mi mk mo mj ml) sz) := by
  refine Met.ofW (cc := cX5_events) (maxL := 1) (ret := (some .int)) (by decide) rfl ?_
  intro p e s m args below meth c s₁ B hml hv
  obtain ⟨rfl, hsz, hP, hK, hD0, hN⟩ := hv
  have hx := B.exec
  have hb := B.bytes
  have hr := B.returns
  have hts := atoms_spec (ws := wsX5_events) B.pre
  have hown : s.vm.findClass RX5 = some m.cls := findClass_of_methodNamed B.named
  have hlocks := B.notSynchronized
  subst hsz
  have hD := hD0.self (sz := s.heap.size)
  generalize hAe : va_A (W_X5 cI m0 m1 m2 m3 m4 m5 m6 m7 m8 m9 m10 m11 mr mc me mw mh mn mu ms mt md mz mi mk mo mj ml) s.heap.size = A at hD ⊢
  have hA : ∀ q : Nat, s.heap.size ≤ q → A q := fun q h => by rw [← hAe]; exact Or.inr h
  have hS : va_S A s.heap s.heap [] := va_S.rf
  have hl := lv_entry ([.ref m0]) (n := 1) (Nat.le_of_ble_eq_true rfl)
  rw [lg_entry_eq]
  generalize (lg_sl ([.ref m0]) ++ List.replicate (1 - (lg_sl ([.ref m0])).length) Slot.unset).toArray = ls at hl ⊢
  have hl : lv_has ls 1 [(0, .ref m0)] := hl
  have he := f_X5_events.eq_1 me
  refine lv_aload_n hx hb dX5_events_0 rfl (lv_at hl 0 rfl) ?_
  refine lv_iconst (v := 0) hx hb dX5_events_1 (by decide) ?_
  refine va_put (D := D) (ci := 5) (v := .int 0) (ty := .int) (C := RX5) (T := TX5) (N := 16) hx hb hts (by decide +kernel) tyX5 tyX5_ok nmX5 hown hK hP hD hS 0 rfl rfl 15 (by decide) (hts (.fieldLink RX5 43 "AlarmgroveModel" "thrown" "I") (by decide +kernel)) (fun _ h9 => h9) rfl (by decide +kernel) rfl rfl (Nat.le_of_ble_eq_true rfl) dX5_events_2 (fun H locs hP hD hS => ?_)
  have hP : va_P D vwCl (W_X5 cI m0 m1 m2 m3 m4 m5 m6 m7 m8 m9 m10 m11 mr mc me mw 0 mn mu ms mt md mz mi mk mo mj ml) H := hP
  have hD : va_D A (W_X5 cI m0 m1 m2 m3 m4 m5 m6 m7 m8 m9 m10 m11 mr mc me mw 0 mn mu ms mt md mz mi mk mo mj ml) := hD
  refine lv_aload_n hx hb dX5_events_5 rfl (lv_at hl 0 rfl) ?_
  refine va_get (D := D) (ci := 5) (v := .int me) (C := RX5) (T := TX5) (N := 16) hx hb hts (by decide +kernel) hown hK hP 0 rfl rfl 13 (by decide) (hts (.fieldLink RX5 65 "AlarmgroveModel" "events" "I") (by decide +kernel)) (fun _ h9 => h9) rfl dX5_events_6 ?_
  exact W.iret (v := me) hx hb hr (fun t ht hW => ⟨⟨me, 0, rfl, he, by rw [ht]; exact hP, va_K.moved hW.alike hK, hD⟩, hS.F ht⟩) hS.2.2 dX5_events_9
abbrev rm_X5_eventKind : Room := { frames := 2, cells := 0, slots := 0, locals := 43 }
abbrev Q_X5_eventKind (D : va_G) (cI : ClassId) (m0 m1 m2 m3 m4 m5 m6 m7 m8 m9 m10 m11 : Nat) (mr : Int32) (mc : Int32) (me : Int32) (mw : Int32) (mh : Int32) (mn : AA) (mu : AA) (ms : AA) (mt : AA) (md : AA) (mz : AA) (mi : AA) (mk : AA) (mo : AA) (mj : AA) (ml : AA) (a1 : Int32) (A : Nat → Prop) : Array Value → State → Outcome → State → Prop := va_Qi (S := Int32) (fun r u => f_X5_eventKind me mk a1 = (r, u)) (fun u t => QW D [(cI, .int)] A (W_X5 cI m0 m1 m2 m3 m4 m5 m6 m7 m8 m9 m10 m11 mr mc me mw u mn mu ms mt md mz mi mk mo mj ml) t) A
set_option maxHeartbeats 4000000 in
set_option maxRecDepth 100000 in
theorem c_X5_eventKind (l : Launch)  (D : va_G) (cI : ClassId) (m0 m1 m2 m3 m4 m5 m6 m7 m8 m9 m10 m11 : Nat) (mr : Int32) (mc : Int32) (me : Int32) (mw : Int32) (mh : Int32) (mn : AA) (mu : AA) (ms : AA) (mt : AA) (md : AA) (mz : AA) (mi : AA) (mk : AA) (mo : AA) (mj : AA) (ml : AA) (sz : Nat) (a1 : Int32) (hp : p_X5_eventKind me mk a1) : Met l yX5_eventKind wsX5_eventKind rm_X5_eventKind (va_Pc [.ref m0, .int a1] (PW D [(cI, .int)] sz (W_X5 cI m0 m1 m2 m3 m4 m5 m6 m7 m8 m9 m10 m11 mr mc me mw mh mn mu ms mt md mz mi mk mo mj ml))) (Q_X5_eventKind D cI m0 m1 m2 m3 m4 m5 m6 m7 m8 m9 m10 m11 mr mc me mw mh mn mu ms mt md mz mi mk mo mj ml a1 (va_A (W_X5 cI m0 m1 m2 m3 m4 m5 m6 m7 m8 m9 m10 m11 mr mc me mw mh mn mu ms mt md mz mi mk mo mj ml) sz)) 0 0 (va_A (W_X5 cI m0 m1 m2 m3 m4 m5 m6 m7 m8 m9 m10 m11 mr mc me mw mh mn mu ms mt md mz mi mk mo mj ml) sz) := by
  refine Met.ofW (cc := cX5_eventKind) (maxL := 2) (ret := (some .int)) (by decide) rfl ?_
  intro p e s m args below meth c s₁ B hml hv
  obtain ⟨rfl, hsz, hP, hK, hD0, hN⟩ := hv
  have hx := B.exec
  have hb := B.bytes
  have hr := B.returns
  have hts := atoms_spec (ws := wsX5_eventKind) B.pre
  have hown : s.vm.findClass RX5 = some m.cls := findClass_of_methodNamed B.named
  have hlocks := B.notSynchronized
  subst hsz
  have hD := hD0.self (sz := s.heap.size)
  generalize hAe : va_A (W_X5 cI m0 m1 m2 m3 m4 m5 m6 m7 m8 m9 m10 m11 mr mc me mw mh mn mu ms mt md mz mi mk mo mj ml) s.heap.size = A at hD ⊢
  have hA : ∀ q : Nat, s.heap.size ≤ q → A q := fun q h => by rw [← hAe]; exact Or.inr h
  have hS : va_S A s.heap s.heap [] := va_S.rf
  have hl := lv_entry ([.ref m0, .int a1]) (n := 2) (Nat.le_of_ble_eq_true rfl)
  rw [lg_entry_eq]
  generalize (lg_sl ([.ref m0, .int a1]) ++ List.replicate (2 - (lg_sl ([.ref m0, .int a1])).length) Slot.unset).toArray = ls at hl ⊢
  have hl : lv_has ls 2 [(0, .ref m0), (1, .int a1)] := hl
  have he := f_X5_eventKind.eq_1 me mk a1
  replace hp := Eq.mp (p_X5_eventKind.eq_1 ..) hp
  refine lv_aload_n hx hb dX5_eventKind_0 rfl (lv_at hl 0 rfl) ?_
  refine lv_iload_n hx hb dX5_eventKind_1 rfl (lv_at hl 1 rfl) ?_
  refine k_calli (S := Int32) (wc := (W_X5 cI m0 m1 m2 m3 m4 m5 m6 m7 m8 m9 m10 m11 mr mc me mw mh mn mu ms mt md mz mi mk mo mj ml)) (wr := ([] : va_W)) (w1 := fun u => (W_X5 cI m0 m1 m2 m3 m4 m5 m6 m7 m8 m9 m10 m11 mr mc me mw u mn mu ms mt md mz mi mk mo mj ml)) (fun u => (W_X5 cI m0 m1 m2 m3 m4 m5 m6 m7 m8 m9 m10 m11 mr mc me mw u mn mu ms mt md mz mi mk mo mj ml)) hP hK hD hN hS hA [0, 1, 2, 3, 4, 5, 6, 7, 8, 9, 10, 11] [] rfl rfl (by decide) (by decide) (by decide) [0, 1, 2, 3, 4, 5, 6, 7, 8, 9, 10, 11] (by decide) (fun _ => rfl) (fun hg => va_runV (As := [.int a1]) (rest := []) ⟨hx, hb, hml, hown, hts⟩ (c_X5_isEvent l D cI m0 m1 m2 m3 m4 m5 m6 m7 m8 m9 m10 m11 mr mc me mw mh mn mu ms mt md mz mi mk mo mj ml _ a1) (cwV 1 hts gX5_eventKind_X5_isEvent rfl rfl rfl (by decide +kernel) ⟨Nat.le_of_ble_eq_true rfl, Nat.le_of_ble_eq_true rfl⟩) ⟨PW.blind, va_recv hK hP (ci := 5) (q0 := 0) rfl rfl, fun U hU hW => ⟨rfl, hg U hU hW⟩⟩ rfl rfl hl.1 rfl (lv_room (Nat.le_of_ble_eq_true rfl)) dX5_eventKind_2 ⟨Nat.le_of_ble_eq_true rfl, Nat.le_of_ble_eq_true rfl⟩) (fun r1 u H locs hw hP hD hS => ?_)
  obtain ⟨u1_0, rfl⟩ : ∃ z, z = u := ⟨_, rfl⟩
  obtain ⟨hw, hb1⟩ := hw
  rw [hw] at he
  try dsimp only at he
  replace hp := hp r1 u1_0 hw
  have hP : va_P D vwCl (W_X5 cI m0 m1 m2 m3 m4 m5 m6 m7 m8 m9 m10 m11 mr mc me mw u1_0 mn mu ms mt md mz mi mk mo mj ml) H := hP
  have hD : va_D A (W_X5 cI m0 m1 m2 m3 m4 m5 m6 m7 m8 m9 m10 m11 mr mc me mw u1_0 mn mu ms mt md mz mi mk mo mj ml) := hD
  obtain ⟨j2, hJ2⟩ : ∃ z : Int32, z = (if r1 = 0 then (0 : Int32) else (mk (a1).toNatClampNeg)) := ⟨_, rfl⟩
  rw [← hJ2] at he
  try dsimp only at he
  have hpJ2 := hp.1
  replace hp := hp.2 _  hJ2.symm
  have kont2 : ∀ (H : Heap) (locs : List Loc), va_P D vwCl (W_X5 cI m0 m1 m2 m3 m4 m5 m6 m7 m8 m9 m10 m11 mr mc me mw u1_0 mn mu ms mt md mz mi mk mo mj ml) H → va_D A (W_X5 cI m0 m1 m2 m3 m4 m5 m6 m7 m8 m9 m10 m11 mr mc me mw u1_0 mn mu ms mt md mz mi mk mo mj ml) → va_S A s.heap H locs → ∀ ls : Array Slot, lv_has ls 2 [] → W p l e (headSpec wsX5_eventKind rm_X5_eventKind).room s m ([.ref m0, .int a1] : List Value).toArray below meth c H locs 0 0 (MQ below (Q_X5_eventKind D cI m0 m1 m2 m3 m4 m5 m6 m7 m8 m9 m10 m11 mr mc me mw mh mn mu ms mt md mz mi mk mo mj ml a1 A) ([.ref m0, .int a1] : List Value).toArray s 0 0 A) (F0 m 18 ls [.int j2]) := by
    intro H locs hP hD hS ls hl
    exact W.iret (v := j2) hx hb hr (fun t ht hW => ⟨⟨j2, u1_0, rfl, he, by rw [ht]; exact hP, va_K.moved hW.alike hK, hD⟩, hS.F ht⟩) hS.2.2 dX5_eventKind_18
  replace he := hJ2
  replace hp := hpJ2
  refine lv_if_eq (tgt := 17) hx hb dX5_eventKind_5 (by decide) (fun c3 => ?_) (fun c3 => ?_)
  · replace hp := hp.1 c3
    replace he := he.trans (if_pos c3)
    refine lv_iconst (v := 0) hx hb dX5_eventKind_17 (by decide) ?_
    subst he
    exact kont2 _ _ hP hD hS _ (lv_sub hl [] rfl)
  · replace hp := hp.2 c3
    replace he := he.trans (if_neg c3)
    refine lv_aload_n hx hb dX5_eventKind_8 rfl (lv_at hl 0 rfl) ?_
    refine va_get (D := D) (ci := 5) (v := .ref m8) (C := RX5) (T := TX5) (N := 16) hx hb hts (by decide +kernel) hown hK hP 0 rfl rfl 9 (by decide) (hts (.fieldLink RX5 31 "AlarmgroveModel" "kind" "[I") (by decide +kernel)) (fun _ h9 => h9) rfl dX5_eventKind_9 ?_
    refine lv_iload_n hx hb dX5_eventKind_12 rfl (lv_at hl 1 rfl) ?_
    have h4 := hp.1
    replace hp := hp.2
    refine va_iald hx hb hK hP 8 0 rfl rfl h4 dX5_eventKind_13 ?_
    refine lv_goto (tgt := 18) hx hb dX5_eventKind_14 (by decide) ?_
    subst he
    exact kont2 _ _ hP hD hS _ (lv_sub hl [] rfl)
abbrev rm_X5_eventNode : Room := { frames := 2, cells := 0, slots := 0, locals := 43 }
abbrev Q_X5_eventNode (D : va_G) (cI : ClassId) (m0 m1 m2 m3 m4 m5 m6 m7 m8 m9 m10 m11 : Nat) (mr : Int32) (mc : Int32) (me : Int32) (mw : Int32) (mh : Int32) (mn : AA) (mu : AA) (ms : AA) (mt : AA) (md : AA) (mz : AA) (mi : AA) (mk : AA) (mo : AA) (mj : AA) (ml : AA) (a1 : Int32) (A : Nat → Prop) : Array Value → State → Outcome → State → Prop := va_Qi (S := Int32) (fun r u => f_X5_eventNode me mo a1 = (r, u)) (fun u t => QW D [(cI, .int)] A (W_X5 cI m0 m1 m2 m3 m4 m5 m6 m7 m8 m9 m10 m11 mr mc me mw u mn mu ms mt md mz mi mk mo mj ml) t) A
set_option maxHeartbeats 4000000 in
set_option maxRecDepth 100000 in
theorem c_X5_eventNode (l : Launch)  (D : va_G) (cI : ClassId) (m0 m1 m2 m3 m4 m5 m6 m7 m8 m9 m10 m11 : Nat) (mr : Int32) (mc : Int32) (me : Int32) (mw : Int32) (mh : Int32) (mn : AA) (mu : AA) (ms : AA) (mt : AA) (md : AA) (mz : AA) (mi : AA) (mk : AA) (mo : AA) (mj : AA) (ml : AA) (sz : Nat) (a1 : Int32) (hp : p_X5_eventNode me mo a1) : Met l yX5_eventNode wsX5_eventNode rm_X5_eventNode (va_Pc [.ref m0, .int a1] (PW D [(cI, .int)] sz (W_X5 cI m0 m1 m2 m3 m4 m5 m6 m7 m8 m9 m10 m11 mr mc me mw mh mn mu ms mt md mz mi mk mo mj ml))) (Q_X5_eventNode D cI m0 m1 m2 m3 m4 m5 m6 m7 m8 m9 m10 m11 mr mc me mw mh mn mu ms mt md mz mi mk mo mj ml a1 (va_A (W_X5 cI m0 m1 m2 m3 m4 m5 m6 m7 m8 m9 m10 m11 mr mc me mw mh mn mu ms mt md mz mi mk mo mj ml) sz)) 0 0 (va_A (W_X5 cI m0 m1 m2 m3 m4 m5 m6 m7 m8 m9 m10 m11 mr mc me mw mh mn mu ms mt md mz mi mk mo mj ml) sz) := by
  refine Met.ofW (cc := cX5_eventNode) (maxL := 2) (ret := (some .int)) (by decide) rfl ?_
  intro p e s m args below meth c s₁ B hml hv
  obtain ⟨rfl, hsz, hP, hK, hD0, hN⟩ := hv
  have hx := B.exec
  have hb := B.bytes
  have hr := B.returns
  have hts := atoms_spec (ws := wsX5_eventNode) B.pre
  have hown : s.vm.findClass RX5 = some m.cls := findClass_of_methodNamed B.named
  have hlocks := B.notSynchronized
  subst hsz
  have hD := hD0.self (sz := s.heap.size)
  generalize hAe : va_A (W_X5 cI m0 m1 m2 m3 m4 m5 m6 m7 m8 m9 m10 m11 mr mc me mw mh mn mu ms mt md mz mi mk mo mj ml) s.heap.size = A at hD ⊢
  have hA : ∀ q : Nat, s.heap.size ≤ q → A q := fun q h => by rw [← hAe]; exact Or.inr h
  have hS : va_S A s.heap s.heap [] := va_S.rf
  have hl := lv_entry ([.ref m0, .int a1]) (n := 2) (Nat.le_of_ble_eq_true rfl)
  rw [lg_entry_eq]
  generalize (lg_sl ([.ref m0, .int a1]) ++ List.replicate (2 - (lg_sl ([.ref m0, .int a1])).length) Slot.unset).toArray = ls at hl ⊢
  have hl : lv_has ls 2 [(0, .ref m0), (1, .int a1)] := hl
  have he := f_X5_eventNode.eq_1 me mo a1
  replace hp := Eq.mp (p_X5_eventNode.eq_1 ..) hp
  refine lv_aload_n hx hb dX5_eventNode_0 rfl (lv_at hl 0 rfl) ?_
  refine lv_iload_n hx hb dX5_eventNode_1 rfl (lv_at hl 1 rfl) ?_
  refine k_calli (S := Int32) (wc := (W_X5 cI m0 m1 m2 m3 m4 m5 m6 m7 m8 m9 m10 m11 mr mc me mw mh mn mu ms mt md mz mi mk mo mj ml)) (wr := ([] : va_W)) (w1 := fun u => (W_X5 cI m0 m1 m2 m3 m4 m5 m6 m7 m8 m9 m10 m11 mr mc me mw u mn mu ms mt md mz mi mk mo mj ml)) (fun u => (W_X5 cI m0 m1 m2 m3 m4 m5 m6 m7 m8 m9 m10 m11 mr mc me mw u mn mu ms mt md mz mi mk mo mj ml)) hP hK hD hN hS hA [0, 1, 2, 3, 4, 5, 6, 7, 8, 9, 10, 11] [] rfl rfl (by decide) (by decide) (by decide) [0, 1, 2, 3, 4, 5, 6, 7, 8, 9, 10, 11] (by decide) (fun _ => rfl) (fun hg => va_runV (As := [.int a1]) (rest := []) ⟨hx, hb, hml, hown, hts⟩ (c_X5_isEvent l D cI m0 m1 m2 m3 m4 m5 m6 m7 m8 m9 m10 m11 mr mc me mw mh mn mu ms mt md mz mi mk mo mj ml _ a1) (cwV 1 hts gX5_eventNode_X5_isEvent rfl rfl rfl (by decide +kernel) ⟨Nat.le_of_ble_eq_true rfl, Nat.le_of_ble_eq_true rfl⟩) ⟨PW.blind, va_recv hK hP (ci := 5) (q0 := 0) rfl rfl, fun U hU hW => ⟨rfl, hg U hU hW⟩⟩ rfl rfl hl.1 rfl (lv_room (Nat.le_of_ble_eq_true rfl)) dX5_eventNode_2 ⟨Nat.le_of_ble_eq_true rfl, Nat.le_of_ble_eq_true rfl⟩) (fun r1 u H locs hw hP hD hS => ?_)
  obtain ⟨u1_0, rfl⟩ : ∃ z, z = u := ⟨_, rfl⟩
  obtain ⟨hw, hb1⟩ := hw
  rw [hw] at he
  try dsimp only at he
  replace hp := hp r1 u1_0 hw
  have hP : va_P D vwCl (W_X5 cI m0 m1 m2 m3 m4 m5 m6 m7 m8 m9 m10 m11 mr mc me mw u1_0 mn mu ms mt md mz mi mk mo mj ml) H := hP
  have hD : va_D A (W_X5 cI m0 m1 m2 m3 m4 m5 m6 m7 m8 m9 m10 m11 mr mc me mw u1_0 mn mu ms mt md mz mi mk mo mj ml) := hD
  obtain ⟨j2, hJ2⟩ : ∃ z : Int32, z = (if r1 = 0 then (0 : Int32) else (mo (a1).toNatClampNeg)) := ⟨_, rfl⟩
  rw [← hJ2] at he
  try dsimp only at he
  have hpJ2 := hp.1
  replace hp := hp.2 _  hJ2.symm
  have kont2 : ∀ (H : Heap) (locs : List Loc), va_P D vwCl (W_X5 cI m0 m1 m2 m3 m4 m5 m6 m7 m8 m9 m10 m11 mr mc me mw u1_0 mn mu ms mt md mz mi mk mo mj ml) H → va_D A (W_X5 cI m0 m1 m2 m3 m4 m5 m6 m7 m8 m9 m10 m11 mr mc me mw u1_0 mn mu ms mt md mz mi mk mo mj ml) → va_S A s.heap H locs → ∀ ls : Array Slot, lv_has ls 2 [] → W p l e (headSpec wsX5_eventNode rm_X5_eventNode).room s m ([.ref m0, .int a1] : List Value).toArray below meth c H locs 0 0 (MQ below (Q_X5_eventNode D cI m0 m1 m2 m3 m4 m5 m6 m7 m8 m9 m10 m11 mr mc me mw mh mn mu ms mt md mz mi mk mo mj ml a1 A) ([.ref m0, .int a1] : List Value).toArray s 0 0 A) (F0 m 18 ls [.int j2]) := by
    intro H locs hP hD hS ls hl
    exact W.iret (v := j2) hx hb hr (fun t ht hW => ⟨⟨j2, u1_0, rfl, he, by rw [ht]; exact hP, va_K.moved hW.alike hK, hD⟩, hS.F ht⟩) hS.2.2 dX5_eventNode_18
  replace he := hJ2
  replace hp := hpJ2
  refine lv_if_eq (tgt := 17) hx hb dX5_eventNode_5 (by decide) (fun c3 => ?_) (fun c3 => ?_)
  · replace hp := hp.1 c3
    replace he := he.trans (if_pos c3)
    refine lv_iconst (v := 0) hx hb dX5_eventNode_17 (by decide) ?_
    subst he
    exact kont2 _ _ hP hD hS _ (lv_sub hl [] rfl)
  · replace hp := hp.2 c3
    replace he := he.trans (if_neg c3)
    refine lv_aload_n hx hb dX5_eventNode_8 rfl (lv_at hl 0 rfl) ?_
    refine va_get (D := D) (ci := 5) (v := .ref m9) (C := RX5) (T := TX5) (N := 16) hx hb hts (by decide +kernel) hown hK hP 0 rfl rfl 10 (by decide) (hts (.fieldLink RX5 34 "AlarmgroveModel" "node" "[I") (by decide +kernel)) (fun _ h9 => h9) rfl dX5_eventNode_9 ?_
    refine lv_iload_n hx hb dX5_eventNode_12 rfl (lv_at hl 1 rfl) ?_
    have h4 := hp.1
    replace hp := hp.2
    refine va_iald hx hb hK hP 9 0 rfl rfl h4 dX5_eventNode_13 ?_
    refine lv_goto (tgt := 18) hx hb dX5_eventNode_14 (by decide) ?_
    subst he
    exact kont2 _ _ hP hD hS _ (lv_sub hl [] rfl)
abbrev rm_X5_eventTime : Room := { frames := 2, cells := 0, slots := 0, locals := 43 }
abbrev Q_X5_eventTime (D : va_G) (cI : ClassId) (m0 m1 m2 m3 m4 m5 m6 m7 m8 m9 m10 m11 : Nat) (mr : Int32) (mc : Int32) (me : Int32) (mw : Int32) (mh : Int32) (mn : AA) (mu : AA) (ms : AA) (mt : AA) (md : AA) (mz : AA) (mi : AA) (mk : AA) (mo : AA) (mj : AA) (ml : AA) (a1 : Int32) (A : Nat → Prop) : Array Value → State → Outcome → State → Prop := va_Qi (S := Int32) (fun r u => f_X5_eventTime me mj a1 = (r, u)) (fun u t => QW D [(cI, .int)] A (W_X5 cI m0 m1 m2 m3 m4 m5 m6 m7 m8 m9 m10 m11 mr mc me mw u mn mu ms mt md mz mi mk mo mj ml) t) A
set_option maxHeartbeats 4000000 in
set_option maxRecDepth 100000 in
theorem c_X5_eventTime (l : Launch)  (D : va_G) (cI : ClassId) (m0 m1 m2 m3 m4 m5 m6 m7 m8 m9 m10 m11 : Nat) (mr : Int32) (mc : Int32) (me : Int32) (mw : Int32) (mh : Int32) (mn : AA) (mu : AA) (ms : AA) (mt : AA) (md : AA) (mz : AA) (mi : AA) (mk : AA) (mo : AA) (mj : AA) (ml : AA) (sz : Nat) (a1 : Int32) (hp : p_X5_eventTime me mj a1) : Met l yX5_eventTime wsX5_eventTime rm_X5_eventTime (va_Pc [.ref m0, .int a1] (PW D [(cI, .int)] sz (W_X5 cI m0 m1 m2 m3 m4 m5 m6 m7 m8 m9 m10 m11 mr mc me mw mh mn mu ms mt md mz mi mk mo mj ml))) (Q_X5_eventTime D cI m0 m1 m2 m3 m4 m5 m6 m7 m8 m9 m10 m11 mr mc me mw mh mn mu ms mt md mz mi mk mo mj ml a1 (va_A (W_X5 cI m0 m1 m2 m3 m4 m5 m6 m7 m8 m9 m10 m11 mr mc me mw mh mn mu ms mt md mz mi mk mo mj ml) sz)) 0 0 (va_A (W_X5 cI m0 m1 m2 m3 m4 m5 m6 m7 m8 m9 m10 m11 mr mc me mw mh mn mu ms mt md mz mi mk mo mj ml) sz) := by
  refine Met.ofW (cc := cX5_eventTime) (maxL := 2) (ret := (some .int)) (by decide) rfl ?_
  intro p e s m args below meth c s₁ B hml hv
  obtain ⟨rfl, hsz, hP, hK, hD0, hN⟩ := hv
  have hx := B.exec
  have hb := B.bytes
  have hr := B.returns
  have hts := atoms_spec (ws := wsX5_eventTime) B.pre
  have hown : s.vm.findClass RX5 = some m.cls := findClass_of_methodNamed B.named
  have hlocks := B.notSynchronized
  subst hsz
  have hD := hD0.self (sz := s.heap.size)
  generalize hAe : va_A (W_X5 cI m0 m1 m2 m3 m4 m5 m6 m7 m8 m9 m10 m11 mr mc me mw mh mn mu ms mt md mz mi mk mo mj ml) s.heap.size = A at hD ⊢
  have hA : ∀ q : Nat, s.heap.size ≤ q → A q := fun q h => by rw [← hAe]; exact Or.inr h
  have hS : va_S A s.heap s.heap [] := va_S.rf
  have hl := lv_entry ([.ref m0, .int a1]) (n := 2) (Nat.le_of_ble_eq_true rfl)
  rw [lg_entry_eq]
  generalize (lg_sl ([.ref m0, .int a1]) ++ List.replicate (2 - (lg_sl ([.ref m0, .int a1])).length) Slot.unset).toArray = ls at hl ⊢
  have hl : lv_has ls 2 [(0, .ref m0), (1, .int a1)] := hl
  have he := f_X5_eventTime.eq_1 me mj a1
  replace hp := Eq.mp (p_X5_eventTime.eq_1 ..) hp
  refine lv_aload_n hx hb dX5_eventTime_0 rfl (lv_at hl 0 rfl) ?_
  refine lv_iload_n hx hb dX5_eventTime_1 rfl (lv_at hl 1 rfl) ?_
  refine k_calli (S := Int32) (wc := (W_X5 cI m0 m1 m2 m3 m4 m5 m6 m7 m8 m9 m10 m11 mr mc me mw mh mn mu ms mt md mz mi mk mo mj ml)) (wr := ([] : va_W)) (w1 := fun u => (W_X5 cI m0 m1 m2 m3 m4 m5 m6 m7 m8 m9 m10 m11 mr mc me mw u mn mu ms mt md mz mi mk mo mj ml)) (fun u => (W_X5 cI m0 m1 m2 m3 m4 m5 m6 m7 m8 m9 m10 m11 mr mc me mw u mn mu ms mt md mz mi mk mo mj ml)) hP hK hD hN hS hA [0, 1, 2, 3, 4, 5, 6, 7, 8, 9, 10, 11] [] rfl rfl (by decide) (by decide) (by decide) [0, 1, 2, 3, 4, 5, 6, 7, 8, 9, 10, 11] (by decide) (fun _ => rfl) (fun hg => va_runV (As := [.int a1]) (rest := []) ⟨hx, hb, hml, hown, hts⟩ (c_X5_isEvent l D cI m0 m1 m2 m3 m4 m5 m6 m7 m8 m9 m10 m11 mr mc me mw mh mn mu ms mt md mz mi mk mo mj ml _ a1) (cwV 1 hts gX5_eventTime_X5_isEvent rfl rfl rfl (by decide +kernel) ⟨Nat.le_of_ble_eq_true rfl, Nat.le_of_ble_eq_true rfl⟩) ⟨PW.blind, va_recv hK hP (ci := 5) (q0 := 0) rfl rfl, fun U hU hW => ⟨rfl, hg U hU hW⟩⟩ rfl rfl hl.1 rfl (lv_room (Nat.le_of_ble_eq_true rfl)) dX5_eventTime_2 ⟨Nat.le_of_ble_eq_true rfl, Nat.le_of_ble_eq_true rfl⟩) (fun r1 u H locs hw hP hD hS => ?_)
  obtain ⟨u1_0, rfl⟩ : ∃ z, z = u := ⟨_, rfl⟩
  obtain ⟨hw, hb1⟩ := hw
  rw [hw] at he
  try dsimp only at he
  replace hp := hp r1 u1_0 hw
  have hP : va_P D vwCl (W_X5 cI m0 m1 m2 m3 m4 m5 m6 m7 m8 m9 m10 m11 mr mc me mw u1_0 mn mu ms mt md mz mi mk mo mj ml) H := hP
  have hD : va_D A (W_X5 cI m0 m1 m2 m3 m4 m5 m6 m7 m8 m9 m10 m11 mr mc me mw u1_0 mn mu ms mt md mz mi mk mo mj ml) := hD
  obtain ⟨j2, hJ2⟩ : ∃ z : Int32, z = (if r1 = 0 then (0 : Int32) else (mj (a1).toNatClampNeg)) := ⟨_, rfl⟩
  rw [← hJ2] at he
  try dsimp only at he
  have hpJ2 := hp.1
  replace hp := hp.2 _  hJ2.symm
  have kont2 : ∀ (H : Heap) (locs : List Loc), va_P D vwCl (W_X5 cI m0 m1 m2 m3 m4 m5 m6 m7 m8 m9 m10 m11 mr mc me mw u1_0 mn mu ms mt md mz mi mk mo mj ml) H → va_D A (W_X5 cI m0 m1 m2 m3 m4 m5 m6 m7 m8 m9 m10 m11 mr mc me mw u1_0 mn mu ms mt md mz mi mk mo mj ml) → va_S A s.heap H locs → ∀ ls : Array Slot, lv_has ls 2 [] → W p l e (headSpec wsX5_eventTime rm_X5_eventTime).room s m ([.ref m0, .int a1] : List Value).toArray below meth c H locs 0 0 (MQ below (Q_X5_eventTime D cI m0 m1 m2 m3 m4 m5 m6 m7 m8 m9 m10 m11 mr mc me mw mh mn mu ms mt md mz mi mk mo mj ml a1 A) ([.ref m0, .int a1] : List Value).toArray s 0 0 A) (F0 m 18 ls [.int j2]) := by
    intro H locs hP hD hS ls hl
    exact W.iret (v := j2) hx hb hr (fun t ht hW => ⟨⟨j2, u1_0, rfl, he, by rw [ht]; exact hP, va_K.moved hW.alike hK, hD⟩, hS.F ht⟩) hS.2.2 dX5_eventTime_18
  replace he := hJ2
  replace hp := hpJ2
  refine lv_if_eq (tgt := 17) hx hb dX5_eventTime_5 (by decide) (fun c3 => ?_) (fun c3 => ?_)
  · replace hp := hp.1 c3
    replace he := he.trans (if_pos c3)
    refine lv_iconst (v := 0) hx hb dX5_eventTime_17 (by decide) ?_
    subst he
    exact kont2 _ _ hP hD hS _ (lv_sub hl [] rfl)
  · replace hp := hp.2 c3
    replace he := he.trans (if_neg c3)
    refine lv_aload_n hx hb dX5_eventTime_8 rfl (lv_at hl 0 rfl) ?_
    refine va_get (D := D) (ci := 5) (v := .ref m10) (C := RX5) (T := TX5) (N := 16) hx hb hts (by decide +kernel) hown hK hP 0 rfl rfl 11 (by decide) (hts (.fieldLink RX5 37 "AlarmgroveModel" "time" "[I") (by decide +kernel)) (fun _ h9 => h9) rfl dX5_eventTime_9 ?_
    refine lv_iload_n hx hb dX5_eventTime_12 rfl (lv_at hl 1 rfl) ?_
    have h4 := hp.1
    replace hp := hp.2
    refine va_iald hx hb hK hP 10 0 rfl rfl h4 dX5_eventTime_13 ?_
    refine lv_goto (tgt := 18) hx hb dX5_eventTime_14 (by decide) ?_
    subst he
    exact kont2 _ _ hP hD hS _ (lv_sub hl [] rfl)
abbrev rm_X5_eventLength : Room := { frames := 2, cells := 0, slots := 0, locals := 43 }
abbrev Q_X5_eventLength (D : va_G) (cI : ClassId) (m0 m1 m2 m3 m4 m5 m6 m7 m8 m9 m10 m11 : Nat) (mr : Int32) (mc : Int32) (me : Int32) (mw : Int32) (mh : Int32) (mn : AA) (mu : AA) (ms : AA) (mt : AA) (md : AA) (mz : AA) (mi : AA) (mk : AA) (mo : AA) (mj : AA) (ml : AA) (a1 : Int32) (A : Nat → Prop) : Array Value → State → Outcome → State → Prop := va_Qi (S := Int32) (fun r u => f_X5_eventLength me ml a1 = (r, u)) (fun u t => QW D [(cI, .int)] A (W_X5 cI m0 m1 m2 m3 m4 m5 m6 m7 m8 m9 m10 m11 mr mc me mw u mn mu ms mt md mz mi mk mo mj ml) t) A
set_option maxHeartbeats 4000000 in
set_option maxRecDepth 100000 in
theorem c_X5_eventLength (l : Launch)  (D : va_G) (cI : ClassId) (m0 m1 m2 m3 m4 m5 m6 m7 m8 m9 m10 m11 : Nat) (mr : Int32) (mc : Int32) (me : Int32) (mw : Int32) (mh : Int32) (mn : AA) (mu : AA) (ms : AA) (mt : AA) (md : AA) (mz : AA) (mi : AA) (mk : AA) (mo : AA) (mj : AA) (ml : AA) (sz : Nat) (a1 : Int32) (hp : p_X5_eventLength me ml a1) : Met l yX5_eventLength wsX5_eventLength rm_X5_eventLength (va_Pc [.ref m0, .int a1] (PW D [(cI, .int)] sz (W_X5 cI m0 m1 m2 m3 m4 m5 m6 m7 m8 m9 m10 m11 mr mc me mw mh mn mu ms mt md mz mi mk mo mj ml))) (Q_X5_eventLength D cI m0 m1 m2 m3 m4 m5 m6 m7 m8 m9 m10 m11 mr mc me mw mh mn mu ms mt md mz mi mk mo mj ml a1 (va_A (W_X5 cI m0 m1 m2 m3 m4 m5 m6 m7 m8 m9 m10 m11 mr mc me mw mh mn mu ms mt md mz mi mk mo mj ml) sz)) 0 0 (va_A (W_X5 cI m0 m1 m2 m3 m4 m5 m6 m7 m8 m9 m10 m11 mr mc me mw mh mn mu ms mt md mz mi mk mo mj ml) sz) := by
  refine Met.ofW (cc := cX5_eventLength) (maxL := 2) (ret := (some .int)) (by decide) rfl ?_
  intro p e s m args below meth c s₁ B hml hv
  obtain ⟨rfl, hsz, hP, hK, hD0, hN⟩ := hv
  have hx := B.exec
  have hb := B.bytes
  have hr := B.returns
  have hts := atoms_spec (ws := wsX5_eventLength) B.pre
  have hown : s.vm.findClass RX5 = some m.cls := findClass_of_methodNamed B.named
  have hlocks := B.notSynchronized
  subst hsz
  have hD := hD0.self (sz := s.heap.size)
  generalize hAe : va_A (W_X5 cI m0 m1 m2 m3 m4 m5 m6 m7 m8 m9 m10 m11 mr mc me mw mh mn mu ms mt md mz mi mk mo mj ml) s.heap.size = A at hD ⊢
  have hA : ∀ q : Nat, s.heap.size ≤ q → A q := fun q h => by rw [← hAe]; exact Or.inr h
  have hS : va_S A s.heap s.heap [] := va_S.rf
  have hl := lv_entry ([.ref m0, .int a1]) (n := 2) (Nat.le_of_ble_eq_true rfl)
  rw [lg_entry_eq]
  generalize (lg_sl ([.ref m0, .int a1]) ++ List.replicate (2 - (lg_sl ([.ref m0, .int a1])).length) Slot.unset).toArray = ls at hl ⊢
  have hl : lv_has ls 2 [(0, .ref m0), (1, .int a1)] := hl
  have he := f_X5_eventLength.eq_1 me ml a1
  replace hp := Eq.mp (p_X5_eventLength.eq_1 ..) hp
  refine lv_aload_n hx hb dX5_eventLength_0 rfl (lv_at hl 0 rfl) ?_
  refine lv_iload_n hx hb dX5_eventLength_1 rfl (lv_at hl 1 rfl) ?_
  refine k_calli (S := Int32) (wc := (W_X5 cI m0 m1 m2 m3 m4 m5 m6 m7 m8 m9 m10 m11 mr mc me mw mh mn mu ms mt md mz mi mk mo mj ml)) (wr := ([] : va_W)) (w1 := fun u => (W_X5 cI m0 m1 m2 m3 m4 m5 m6 m7 m8 m9 m10 m11 mr mc me mw u mn mu ms mt md mz mi mk mo mj ml)) (fun u => (W_X5 cI m0 m1 m2 m3 m4 m5 m6 m7 m8 m9 m10 m11 mr mc me mw u mn mu ms mt md mz mi mk mo mj ml)) hP hK hD hN hS hA [0, 1, 2, 3, 4, 5, 6, 7, 8, 9, 10, 11] [] rfl rfl (by decide) (by decide) (by decide) [0, 1, 2, 3, 4, 5, 6, 7, 8, 9, 10, 11] (by decide) (fun _ => rfl) (fun hg => va_runV (As := [.int a1]) (rest := []) ⟨hx, hb, hml, hown, hts⟩ (c_X5_isEvent l D cI m0 m1 m2 m3 m4 m5 m6 m7 m8 m9 m10 m11 mr mc me mw mh mn mu ms mt md mz mi mk mo mj ml _ a1) (cwV 1 hts gX5_eventLength_X5_isEvent rfl rfl rfl (by decide +kernel) ⟨Nat.le_of_ble_eq_true rfl, Nat.le_of_ble_eq_true rfl⟩) ⟨PW.blind, va_recv hK hP (ci := 5) (q0 := 0) rfl rfl, fun U hU hW => ⟨rfl, hg U hU hW⟩⟩ rfl rfl hl.1 rfl (lv_room (Nat.le_of_ble_eq_true rfl)) dX5_eventLength_2 ⟨Nat.le_of_ble_eq_true rfl, Nat.le_of_ble_eq_true rfl⟩) (fun r1 u H locs hw hP hD hS => ?_)
  obtain ⟨u1_0, rfl⟩ : ∃ z, z = u := ⟨_, rfl⟩
  obtain ⟨hw, hb1⟩ := hw
  rw [hw] at he
  try dsimp only at he
  replace hp := hp r1 u1_0 hw
  have hP : va_P D vwCl (W_X5 cI m0 m1 m2 m3 m4 m5 m6 m7 m8 m9 m10 m11 mr mc me mw u1_0 mn mu ms mt md mz mi mk mo mj ml) H := hP
  have hD : va_D A (W_X5 cI m0 m1 m2 m3 m4 m5 m6 m7 m8 m9 m10 m11 mr mc me mw u1_0 mn mu ms mt md mz mi mk mo mj ml) := hD
  obtain ⟨j2, hJ2⟩ : ∃ z : Int32, z = (if r1 = 0 then (0 : Int32) else (ml (a1).toNatClampNeg)) := ⟨_, rfl⟩
  rw [← hJ2] at he
  try dsimp only at he
  have hpJ2 := hp.1
  replace hp := hp.2 _  hJ2.symm
  have kont2 : ∀ (H : Heap) (locs : List Loc), va_P D vwCl (W_X5 cI m0 m1 m2 m3 m4 m5 m6 m7 m8 m9 m10 m11 mr mc me mw u1_0 mn mu ms mt md mz mi mk mo mj ml) H → va_D A (W_X5 cI m0 m1 m2 m3 m4 m5 m6 m7 m8 m9 m10 m11 mr mc me mw u1_0 mn mu ms mt md mz mi mk mo mj ml) → va_S A s.heap H locs → ∀ ls : Array Slot, lv_has ls 2 [] → W p l e (headSpec wsX5_eventLength rm_X5_eventLength).room s m ([.ref m0, .int a1] : List Value).toArray below meth c H locs 0 0 (MQ below (Q_X5_eventLength D cI m0 m1 m2 m3 m4 m5 m6 m7 m8 m9 m10 m11 mr mc me mw mh mn mu ms mt md mz mi mk mo mj ml a1 A) ([.ref m0, .int a1] : List Value).toArray s 0 0 A) (F0 m 18 ls [.int j2]) := by
    intro H locs hP hD hS ls hl
    exact W.iret (v := j2) hx hb hr (fun t ht hW => ⟨⟨j2, u1_0, rfl, he, by rw [ht]; exact hP, va_K.moved hW.alike hK, hD⟩, hS.F ht⟩) hS.2.2 dX5_eventLength_18
  replace he := hJ2
  replace hp := hpJ2
  refine lv_if_eq (tgt := 17) hx hb dX5_eventLength_5 (by decide) (fun c3 => ?_) (fun c3 => ?_)
  · replace hp := hp.1 c3
    replace he := he.trans (if_pos c3)
    refine lv_iconst (v := 0) hx hb dX5_eventLength_17 (by decide) ?_
    subst he
    exact kont2 _ _ hP hD hS _ (lv_sub hl [] rfl)
  · replace hp := hp.2 c3
    replace he := he.trans (if_neg c3)
    refine lv_aload_n hx hb dX5_eventLength_8 rfl (lv_at hl 0 rfl) ?_
    refine va_get (D := D) (ci := 5) (v := .ref m11) (C := RX5) (T := TX5) (N := 16) hx hb hts (by decide +kernel) hown hK hP 0 rfl rfl 12 (by decide) (hts (.fieldLink RX5 40 "AlarmgroveModel" "length" "[I") (by decide +kernel)) (fun _ h9 => h9) rfl dX5_eventLength_9 ?_
    refine lv_iload_n hx hb dX5_eventLength_12 rfl (lv_at hl 1 rfl) ?_
    have h4 := hp.1
    replace hp := hp.2
    refine va_iald hx hb hK hP 11 0 rfl rfl h4 dX5_eventLength_13 ?_
    refine lv_goto (tgt := 18) hx hb dX5_eventLength_14 (by decide) ?_
    subst he
    exact kont2 _ _ hP hD hS _ (lv_sub hl [] rfl)
abbrev rm_X5_openTickets : Room := { frames := 0, cells := 0, slots := 0, locals := 0 }
abbrev Q_X5_openTickets (D : va_G) (cI : ClassId) (m0 m1 m2 m3 m4 m5 m6 m7 m8 m9 m10 m11 : Nat) (mr : Int32) (mc : Int32) (me : Int32) (mw : Int32) (mh : Int32) (mn : AA) (mu : AA) (ms : AA) (mt : AA) (md : AA) (mz : AA) (mi : AA) (mk : AA) (mo : AA) (mj : AA) (ml : AA) (A : Nat → Prop) : Array Value → State → Outcome → State → Prop := va_Qi (S := Int32) (fun r u => f_X5_openTickets mc mz = (r, u)) (fun u t => QW D [(cI, .int)] A (W_X5 cI m0 m1 m2 m3 m4 m5 m6 m7 m8 m9 m10 m11 mr mc me mw u mn mu ms mt md mz mi mk mo mj ml) t) A
set_option maxHeartbeats 4000000 in
set_option maxRecDepth 100000 in
theorem c_X5_openTickets (l : Launch)  (D : va_G) (cI : ClassId) (m0 m1 m2 m3 m4 m5 m6 m7 m8 m9 m10 m11 : Nat) (mr : Int32) (mc : Int32) (me : Int32) (mw : Int32) (mh : Int32) (mn : AA) (mu : AA) (ms : AA) (mt : AA) (md : AA) (mz : AA) (mi : AA) (mk : AA) (mo : AA) (mj : AA) (ml : AA) (sz : Nat) (hp : p_X5_openTickets mc mz) : Met l yX5_openTickets wsX5_openTickets rm_X5_openTickets (va_Pc [.ref m0] (PW D [(cI, .int)] sz (W_X5 cI m0 m1 m2 m3 m4 m5 m6 m7 m8 m9 m10 m11 mr mc me mw mh mn mu ms mt md mz mi mk mo mj ml))) (Q_X5_openTickets D cI m0 m1 m2 m3 m4 m5 m6 m7 m8 m9 m10 m11 mr mc me mw mh mn mu ms mt md mz mi mk mo mj ml (va_A (W_X5 cI m0 m1 m2 m3 m4 m5 m6 m7 m8 m9 m10 m11 mr mc me mw mh mn mu ms mt md mz mi mk mo mj ml) sz)) 0 0 (va_A (W_X5 cI m0 m1 m2 m3 m4 m5 m6 m7 m8 m9 m10 m11 mr mc me mw mh mn mu ms mt md mz mi mk mo mj ml) sz) := by
  refine Met.ofW (cc := cX5_openTickets) (maxL := 3) (ret := (some .int)) (by decide) rfl ?_
  intro p e s m args below meth c s₁ B hml hv
  obtain ⟨rfl, hsz, hP, hK, hD0, hN⟩ := hv
  have hx := B.exec
  have hb := B.bytes
  have hr := B.returns
  have hts := atoms_spec (ws := wsX5_openTickets) B.pre
  have hown : s.vm.findClass RX5 = some m.cls := findClass_of_methodNamed B.named
  have hlocks := B.notSynchronized
  subst hsz
  have hD := hD0.self (sz := s.heap.size)
  generalize hAe : va_A (W_X5 cI m0 m1 m2 m3 m4 m5 m6 m7 m8 m9 m10 m11 mr mc me mw mh mn mu ms mt md mz mi mk mo mj ml) s.heap.size = A at hD ⊢
  have hA : ∀ q : Nat, s.heap.size ≤ q → A q := fun q h => by rw [← hAe]; exact Or.inr h
  have hS : va_S A s.heap s.heap [] := va_S.rf
  have hl := lv_entry ([.ref m0]) (n := 3) (Nat.le_of_ble_eq_true rfl)
  rw [lg_entry_eq]
  generalize (lg_sl ([.ref m0]) ++ List.replicate (3 - (lg_sl ([.ref m0])).length) Slot.unset).toArray = ls at hl ⊢
  have hl : lv_has ls 3 [(0, .ref m0)] := hl
  have he := f_X5_openTickets.eq_1 mc mz
  replace hp := Eq.mp (p_X5_openTickets.eq_1 ..) hp
  refine lv_aload_n hx hb dX5_openTickets_0 rfl (lv_at hl 0 rfl) ?_
  refine lv_iconst (v := 0) hx hb dX5_openTickets_1 (by decide) ?_
  refine va_put (D := D) (ci := 5) (v := .int 0) (ty := .int) (C := RX5) (T := TX5) (N := 16) hx hb hts (by decide +kernel) tyX5 tyX5_ok nmX5 hown hK hP hD hS 0 rfl rfl 15 (by decide) (hts (.fieldLink RX5 43 "AlarmgroveModel" "thrown" "I") (by decide +kernel)) (fun _ h9 => h9) rfl (by decide +kernel) rfl rfl (Nat.le_of_ble_eq_true rfl) dX5_openTickets_2 (fun H locs hP hD hS => ?_)
  have hP : va_P D vwCl (W_X5 cI m0 m1 m2 m3 m4 m5 m6 m7 m8 m9 m10 m11 mr mc me mw 0 mn mu ms mt md mz mi mk mo mj ml) H := hP
  have hD : va_D A (W_X5 cI m0 m1 m2 m3 m4 m5 m6 m7 m8 m9 m10 m11 mr mc me mw 0 mn mu ms mt md mz mi mk mo mj ml) := hD
  refine lv_iconst (v := 0) hx hb dX5_openTickets_5 (by decide) ?_
  refine lv_istore_n (lv' := [(1, .int 0), (0, .ref m0)]) hx hb dX5_openTickets_6 rfl hl (by decide) rfl (fun ls hl => ?_)
  refine lv_iconst (v := 1) hx hb dX5_openTickets_7 (by decide) ?_
  refine lv_istore_n (lv' := [(2, .int 1), (1, .int 0), (0, .ref m0)]) hx hb dX5_openTickets_8 rfl hl (by decide) rfl (fun ls hl => ?_)
  obtain ⟨⟨r1_v9_1, r1_v9_2⟩, hL1⟩ : ∃ z, z = f_X5_openTickets_L9 mc mz 302 (0 : Int32) (1 : Int32) := ⟨_, rfl⟩
  rw [← hL1] at he
  try dsimp only at he
  have hpL1 := hp.1
  replace hp := hp.2 _ _ hL1.symm
  have kont1 : ∀ (x1_v9_1 : Int32) (x1_v9_2 : Int32), (r1_v9_1, r1_v9_2) = (x1_v9_1, x1_v9_2) → ∀ (H : Heap) (locs : List Loc), va_P D vwCl (W_X5 cI m0 m1 m2 m3 m4 m5 m6 m7 m8 m9 m10 m11 mr mc me mw 0 mn mu ms mt md mz mi mk mo mj ml) H → va_D A (W_X5 cI m0 m1 m2 m3 m4 m5 m6 m7 m8 m9 m10 m11 mr mc me mw 0 mn mu ms mt md mz mi mk mo mj ml) → va_S A s.heap H locs → ∀ ls : Array Slot, lv_has ls 3 [(1, .int x1_v9_1)] → W p l e (headSpec wsX5_openTickets rm_X5_openTickets).room s m ([.ref m0] : List Value).toArray below meth c H locs 0 0 (MQ below (Q_X5_openTickets D cI m0 m1 m2 m3 m4 m5 m6 m7 m8 m9 m10 m11 mr mc me mw mh mn mu ms mt md mz mi mk mo mj ml A) ([.ref m0] : List Value).toArray s 0 0 A) (F0 m 41 ls []) := by
    intro x1_v9_1 x1_v9_2 hxe H locs hP hD hS ls hl
    simp only [Prod.mk.injEq] at hxe
    obtain ⟨rfl, rfl⟩ := hxe
    refine lv_iload_n hx hb dX5_openTickets_41 rfl (lv_at hl 0 rfl) ?_
    exact W.iret (v := r1_v9_1) hx hb hr (fun t ht hW => ⟨⟨r1_v9_1, 0, rfl, he, by rw [ht]; exact hP, va_K.moved hW.alike hK, hD⟩, hS.F ht⟩) hS.2.2 dX5_openTickets_42
  have loop1 : ∀ (n : Nat) (v9_1 : Int32) (v9_2 : Int32), p_X5_openTickets_L9 mc mz n v9_1 v9_2 → (r1_v9_1, r1_v9_2) = f_X5_openTickets_L9 mc mz n v9_1 v9_2 → ∀ (H : Heap) (locs : List Loc), va_P D vwCl (W_X5 cI m0 m1 m2 m3 m4 m5 m6 m7 m8 m9 m10 m11 mr mc me mw 0 mn mu ms mt md mz mi mk mo mj ml) H → va_D A (W_X5 cI m0 m1 m2 m3 m4 m5 m6 m7 m8 m9 m10 m11 mr mc me mw 0 mn mu ms mt md mz mi mk mo mj ml) → va_S A s.heap H locs → ∀ ls : Array Slot, lv_has ls 3 [(2, .int v9_2), (1, .int v9_1), (0, .ref m0)] → W p l e (headSpec wsX5_openTickets rm_X5_openTickets).room s m ([.ref m0] : List Value).toArray below meth c H locs 0 0 (MQ below (Q_X5_openTickets D cI m0 m1 m2 m3 m4 m5 m6 m7 m8 m9 m10 m11 mr mc me mw mh mn mu ms mt md mz mi mk mo mj ml A) ([.ref m0] : List Value).toArray s 0 0 A) (F0 m 9 ls []) := by
    intro n
    induction n with
    | zero => exact fun _ _ hp => hp.elim
    | succ n ih =>
      intro v9_1 v9_2 hp he H locs hP hD hS ls hl
      replace hp := Eq.mp (p_X5_openTickets_L9.eq_2 ..) hp
      replace he := he.trans (f_X5_openTickets_L9.eq_2 ..)
      refine lv_iload_n hx hb dX5_openTickets_9 rfl (lv_at hl 0 rfl) ?_
      refine lv_aload_n hx hb dX5_openTickets_10 rfl (lv_at hl 2 rfl) ?_
      refine va_get (D := D) (ci := 5) (v := .int mc) (C := RX5) (T := TX5) (N := 16) hx hb hts (by decide +kernel) hown hK hP 0 rfl rfl 8 (by decide) (hts (.fieldLink RX5 75 "AlarmgroveModel" "tickets" "I") (by decide +kernel)) (fun _ h9 => h9) rfl dX5_openTickets_11 ?_
      refine lv_icmp_gt (tgt := 41) hx hb dX5_openTickets_14 (by decide) (fun c2 => ?_) (fun c2 => ?_)
      · replace hp := hp.1 c2
        replace he := he.trans (if_pos c2)
        exact kont1 _ _ he _ _ hP hD hS _ (lv_sub hl [1] rfl)
      · replace hp := hp.2 c2
        replace he := he.trans (if_neg c2)
        refine lv_iload_n hx hb dX5_openTickets_17 rfl (lv_at hl 1 rfl) ?_
        refine lv_aload_n hx hb dX5_openTickets_18 rfl (lv_at hl 2 rfl) ?_
        refine va_get (D := D) (ci := 5) (v := .ref m6) (C := RX5) (T := TX5) (N := 16) hx hb hts (by decide +kernel) hown hK hP 0 rfl rfl 6 (by decide) (hts (.fieldLink RX5 25 "AlarmgroveModel" "states" "[I") (by decide +kernel)) (fun _ h9 => h9) rfl dX5_openTickets_19 ?_
        refine lv_iload_n hx hb dX5_openTickets_22 rfl (lv_at hl 0 rfl) ?_
        have h3 := hp.1
        replace hp := hp.2
        refine va_iald hx hb hK hP 6 0 rfl rfl h3 dX5_openTickets_23 ?_
        refine lv_iconst (v := 1) hx hb dX5_openTickets_24 (by decide) ?_
        obtain ⟨j4, hJ4⟩ : ∃ z : Int32, z = (if (mz (v9_2).toNatClampNeg) = 1 then (1 : Int32) else (0 : Int32)) := ⟨_, rfl⟩
        rw [← hJ4] at he
        try dsimp only at he
        have hpJ4 := hp.1
        replace hp := hp.2 _  hJ4.symm
        have kont4 : (j4 = 0 ∨ j4 = 1) → ∀ (H : Heap) (locs : List Loc), va_P D vwCl (W_X5 cI m0 m1 m2 m3 m4 m5 m6 m7 m8 m9 m10 m11 mr mc me mw 0 mn mu ms mt md mz mi mk mo mj ml) H → va_D A (W_X5 cI m0 m1 m2 m3 m4 m5 m6 m7 m8 m9 m10 m11 mr mc me mw 0 mn mu ms mt md mz mi mk mo mj ml) → va_S A s.heap H locs → ∀ ls : Array Slot, lv_has ls 3 [(2, .int v9_2), (0, .ref m0)] → W p l e (headSpec wsX5_openTickets rm_X5_openTickets).room s m ([.ref m0] : List Value).toArray below meth c H locs 0 0 (MQ below (Q_X5_openTickets D cI m0 m1 m2 m3 m4 m5 m6 m7 m8 m9 m10 m11 mr mc me mw mh mn mu ms mt md mz mi mk mo mj ml A) ([.ref m0] : List Value).toArray s 0 0 A) (F0 m 33 ls [.int j4, .int v9_1]) := by
          intro hb4 H locs hP hD hS ls hl
          refine lv_iadd hx hb dX5_openTickets_33 ?_
          refine lv_istore_n (lv' := [(1, .int (v9_1 + j4)), (2, .int v9_2), (0, .ref m0)]) hx hb dX5_openTickets_34 rfl hl (by decide) rfl (fun ls hl => ?_)
          refine lv_iinc (v := (v9_2 + 1)) (lv' := [(2, .int (v9_2 + 1)), (1, .int (v9_1 + j4)), (0, .ref m0)]) hx hb dX5_openTickets_35 hl (k := 1) rfl rfl (by decide) rfl (fun ls hl => ?_)
          refine lv_goto (tgt := 9) hx hb dX5_openTickets_38 (by decide) ?_
          exact ih _ _ hp he _ _ hP hD hS _ (lv_sub hl [0, 1, 2] rfl)
        replace he := hJ4
        replace hp := hpJ4
        refine lv_icmp_ne (tgt := 32) hx hb dX5_openTickets_25 (by decide) (fun c5 => ?_) (fun c5 => ?_)
        · replace hp := hp.2 c5
          replace he := he.trans (if_neg c5)
          refine lv_iconst (v := 0) hx hb dX5_openTickets_32 (by decide) ?_
          subst he
          exact kont4 (Or.inl rfl) _ _ hP hD hS _ (lv_sub hl [0, 2] rfl)
        · replace hp := hp.1 c5
          replace he := he.trans (if_pos c5)
          refine lv_iconst (v := 1) hx hb dX5_openTickets_28 (by decide) ?_
          refine lv_goto (tgt := 33) hx hb dX5_openTickets_29 (by decide) ?_
          subst he
          exact kont4 (Or.inr rfl) _ _ hP hD hS _ (lv_sub hl [0, 2] rfl)
  exact loop1 302 (0 : Int32) (1 : Int32) hpL1 hL1 _ _ hP hD hS _ (lv_sub hl [0, 1, 2] rfl)
abbrev rm_X5_ticketOf : Room := { frames := 1, cells := 0, slots := 0, locals := 22 }
abbrev Q_X5_ticketOf (D : va_G) (cI : ClassId) (m0 m1 m2 m3 m4 m5 m6 m7 m8 m9 m10 m11 : Nat) (mr : Int32) (mc : Int32) (me : Int32) (mw : Int32) (mh : Int32) (mn : AA) (mu : AA) (ms : AA) (mt : AA) (md : AA) (mz : AA) (mi : AA) (mk : AA) (mo : AA) (mj : AA) (ml : AA) (a1 : Int32) (A : Nat → Prop) : Array Value → State → Outcome → State → Prop := va_Qi (S := Int32) (fun r u => f_X5_ticketOf mr mt a1 = (r, u)) (fun u t => QW D [(cI, .int)] A (W_X5 cI m0 m1 m2 m3 m4 m5 m6 m7 m8 m9 m10 m11 mr mc me mw u mn mu ms mt md mz mi mk mo mj ml) t) A
set_option maxHeartbeats 4000000 in
set_option maxRecDepth 100000 in
theorem c_X5_ticketOf (l : Launch)  (D : va_G) (cI : ClassId) (m0 m1 m2 m3 m4 m5 m6 m7 m8 m9 m10 m11 : Nat) (mr : Int32) (mc : Int32) (me : Int32) (mw : Int32) (mh : Int32) (mn : AA) (mu : AA) (ms : AA) (mt : AA) (md : AA) (mz : AA) (mi : AA) (mk : AA) (mo : AA) (mj : AA) (ml : AA) (sz : Nat) (a1 : Int32) (hp : p_X5_ticketOf mr mt a1) : Met l yX5_ticketOf wsX5_ticketOf rm_X5_ticketOf (va_Pc [.ref m0, .int a1] (PW D [(cI, .int)] sz (W_X5 cI m0 m1 m2 m3 m4 m5 m6 m7 m8 m9 m10 m11 mr mc me mw mh mn mu ms mt md mz mi mk mo mj ml))) (Q_X5_ticketOf D cI m0 m1 m2 m3 m4 m5 m6 m7 m8 m9 m10 m11 mr mc me mw mh mn mu ms mt md mz mi mk mo mj ml a1 (va_A (W_X5 cI m0 m1 m2 m3 m4 m5 m6 m7 m8 m9 m10 m11 mr mc me mw mh mn mu ms mt md mz mi mk mo mj ml) sz)) 0 0 (va_A (W_X5 cI m0 m1 m2 m3 m4 m5 m6 m7 m8 m9 m10 m11 mr mc me mw mh mn mu ms mt md mz mi mk mo mj ml) sz) := by
  refine Met.ofW (cc := cX5_ticketOf) (maxL := 3) (ret := (some .int)) (by decide) rfl ?_
  intro p e s m args below meth c s₁ B hml hv
  obtain ⟨rfl, hsz, hP, hK, hD0, hN⟩ := hv
  have hx := B.exec
  have hb := B.bytes
  have hr := B.returns
  have hts := atoms_spec (ws := wsX5_ticketOf) B.pre
  have hown : s.vm.findClass RX5 = some m.cls := findClass_of_methodNamed B.named
  have hlocks := B.notSynchronized
  subst hsz
  have hD := hD0.self (sz := s.heap.size)
  generalize hAe : va_A (W_X5 cI m0 m1 m2 m3 m4 m5 m6 m7 m8 m9 m10 m11 mr mc me mw mh mn mu ms mt md mz mi mk mo mj ml) s.heap.size = A at hD ⊢
  have hA : ∀ q : Nat, s.heap.size ≤ q → A q := fun q h => by rw [← hAe]; exact Or.inr h
  have hS : va_S A s.heap s.heap [] := va_S.rf
  have hl := lv_entry ([.ref m0, .int a1]) (n := 3) (Nat.le_of_ble_eq_true rfl)
  rw [lg_entry_eq]
  generalize (lg_sl ([.ref m0, .int a1]) ++ List.replicate (3 - (lg_sl ([.ref m0, .int a1])).length) Slot.unset).toArray = ls at hl ⊢
  have hl : lv_has ls 3 [(0, .ref m0), (1, .int a1)] := hl
  have he := f_X5_ticketOf.eq_1 mr mt a1
  replace hp := Eq.mp (p_X5_ticketOf.eq_1 ..) hp
  refine lv_aload_n hx hb dX5_ticketOf_0 rfl (lv_at hl 0 rfl) ?_
  refine lv_iload_n hx hb dX5_ticketOf_1 rfl (lv_at hl 1 rfl) ?_
  refine k_calli (S := Unit) (wc := ([] : va_W)) (wr := (W_X5 cI m0 m1 m2 m3 m4 m5 m6 m7 m8 m9 m10 m11 mr mc me mw mh mn mu ms mt md mz mi mk mo mj ml)) (w1 := fun u => ([] : va_W)) (fun u => (W_X5 cI m0 m1 m2 m3 m4 m5 m6 m7 m8 m9 m10 m11 mr mc me mw mh mn mu ms mt md mz mi mk mo mj ml)) hP hK hD hN hS hA [] [0, 1, 2, 3, 4, 5, 6, 7, 8, 9, 10, 11] rfl rfl (by decide) (by decide) (by decide) [0, 1, 2, 3, 4, 5, 6, 7, 8, 9, 10, 11] (by decide) (fun _ => rfl) (fun hg => va_runS (As := [.int a1]) (rest := [.ref m0]) ⟨hx, hb, hml, hown, hts⟩ (c_X5_isNode l D cI _ a1) (va_cwS 1 hts gX5_ticketOf_X5_isNode rfl rfl rfl (by decide +kernel) ⟨Nat.le_of_ble_eq_true rfl, Nat.le_of_ble_eq_true rfl⟩) ⟨PW.blind, fun U hU hW => ⟨rfl, hg U hU hW⟩⟩ rfl rfl hl.1 rfl (lv_room (Nat.le_of_ble_eq_true rfl)) dX5_ticketOf_2 ⟨Nat.le_of_ble_eq_true rfl, Nat.le_of_ble_eq_true rfl⟩) (fun r1 u H locs hw hP hD hS => ?_)
  obtain ⟨hw, hb1⟩ := hw
  subst hw
  refine lv_iconst (v := 1) hx hb dX5_ticketOf_5 (by decide) ?_
  refine k_calli (S := Int32) (wc := (W_X5 cI m0 m1 m2 m3 m4 m5 m6 m7 m8 m9 m10 m11 mr mc me mw mh mn mu ms mt md mz mi mk mo mj ml)) (wr := ([] : va_W)) (w1 := fun u => (W_X5 cI m0 m1 m2 m3 m4 m5 m6 m7 m8 m9 m10 m11 mr mc me mw u mn mu ms mt md mz mi mk mo mj ml)) (fun u => (W_X5 cI m0 m1 m2 m3 m4 m5 m6 m7 m8 m9 m10 m11 mr mc me mw u mn mu ms mt md mz mi mk mo mj ml)) hP hK hD hN hS hA [0, 1, 2, 3, 4, 5, 6, 7, 8, 9, 10, 11] [] rfl rfl (by decide) (by decide) (by decide) [0, 1, 2, 3, 4, 5, 6, 7, 8, 9, 10, 11] (by decide) (fun _ => rfl) (fun hg => va_runV (As := [.int (f_X5_isNode a1), .int 1]) (rest := []) ⟨hx, hb, hml, hown, hts⟩ (c_X5_goes l D cI m0 m1 m2 m3 m4 m5 m6 m7 m8 m9 m10 m11 mr mc me mw mh mn mu ms mt md mz mi mk mo mj ml _ (f_X5_isNode a1) 1) (cwV 2 hts gX5_ticketOf_X5_goes rfl rfl rfl (by decide +kernel) ⟨Nat.le_of_ble_eq_true rfl, Nat.le_of_ble_eq_true rfl⟩) ⟨PW.blind, va_recv hK hP (ci := 5) (q0 := 0) rfl rfl, fun U hU hW => ⟨rfl, hg U hU hW⟩⟩ rfl rfl hl.1 rfl (lv_room (Nat.le_of_ble_eq_true rfl)) dX5_ticketOf_6 ⟨Nat.le_of_ble_eq_true rfl, Nat.le_of_ble_eq_true rfl⟩) (fun r2 u H locs hw hP hD hS => ?_)
  obtain ⟨u2_0, rfl⟩ : ∃ z, z = u := ⟨_, rfl⟩
  obtain ⟨hw, hb2⟩ := hw
  rw [hw] at he
  try dsimp only at he
  replace hp := hp r2 u2_0 hw
  have hP : va_P D vwCl (W_X5 cI m0 m1 m2 m3 m4 m5 m6 m7 m8 m9 m10 m11 mr mc me mw u2_0 mn mu ms mt md mz mi mk mo mj ml) H := hP
  have hD : va_D A (W_X5 cI m0 m1 m2 m3 m4 m5 m6 m7 m8 m9 m10 m11 mr mc me mw u2_0 mn mu ms mt md mz mi mk mo mj ml) := hD
  refine lv_istore_n (lv' := [(2, .int r2), (0, .ref m0), (1, .int a1)]) hx hb dX5_ticketOf_9 rfl hl (by decide) rfl (fun ls hl => ?_)
  refine lv_iload_n hx hb dX5_ticketOf_10 rfl (lv_at hl 0 rfl) ?_
  obtain ⟨j3, hJ3⟩ : ∃ z : Int32, z = (if r2 = 0 then (0 : Int32) else (if (f_X5_has mr a1) = 0 then ((-1) : Int32) else (mt (a1).toNatClampNeg))) := ⟨_, rfl⟩
  rw [← hJ3] at he
  try dsimp only at he
  have hpJ3 := hp.1
  replace hp := hp.2 _  hJ3.symm
  have kont3 : ∀ (H : Heap) (locs : List Loc), va_P D vwCl (W_X5 cI m0 m1 m2 m3 m4 m5 m6 m7 m8 m9 m10 m11 mr mc me mw u2_0 mn mu ms mt md mz mi mk mo mj ml) H → va_D A (W_X5 cI m0 m1 m2 m3 m4 m5 m6 m7 m8 m9 m10 m11 mr mc me mw u2_0 mn mu ms mt md mz mi mk mo mj ml) → va_S A s.heap H locs → ∀ ls : Array Slot, lv_has ls 3 [] → W p l e (headSpec wsX5_ticketOf rm_X5_ticketOf).room s m ([.ref m0, .int a1] : List Value).toArray below meth c H locs 0 0 (MQ below (Q_X5_ticketOf D cI m0 m1 m2 m3 m4 m5 m6 m7 m8 m9 m10 m11 mr mc me mw mh mn mu ms mt md mz mi mk mo mj ml a1 A) ([.ref m0, .int a1] : List Value).toArray s 0 0 A) (F0 m 39 ls [.int j3]) := by
    intro H locs hP hD hS ls hl
    exact W.iret (v := j3) hx hb hr (fun t ht hW => ⟨⟨j3, u2_0, rfl, he, by rw [ht]; exact hP, va_K.moved hW.alike hK, hD⟩, hS.F ht⟩) hS.2.2 dX5_ticketOf_39
  replace he := hJ3
  replace hp := hpJ3
  refine lv_if_eq (tgt := 38) hx hb dX5_ticketOf_11 (by decide) (fun c4 => ?_) (fun c4 => ?_)
  · replace hp := hp.1 c4
    replace he := he.trans (if_pos c4)
    refine lv_iconst (v := 0) hx hb dX5_ticketOf_38 (by decide) ?_
    subst he
    exact kont3 _ _ hP hD hS _ (lv_sub hl [] rfl)
  · replace hp := hp.2 c4
    replace he := he.trans (if_neg c4)
    refine lv_aload_n hx hb dX5_ticketOf_14 rfl (lv_at hl 1 rfl) ?_
    refine va_get (D := D) (ci := 5) (v := .int mr) (C := RX5) (T := TX5) (N := 16) hx hb hts (by decide +kernel) hown hK hP 0 rfl rfl 2 (by decide) (hts (.fieldLink RX5 68 "AlarmgroveModel" "raised" "I") (by decide +kernel)) (fun _ h9 => h9) rfl dX5_ticketOf_15 ?_
    refine lv_iload_n hx hb dX5_ticketOf_18 rfl (lv_at hl 2 rfl) ?_
    refine k_calli (S := Unit) (wc := ([] : va_W)) (wr := (W_X5 cI m0 m1 m2 m3 m4 m5 m6 m7 m8 m9 m10 m11 mr mc me mw u2_0 mn mu ms mt md mz mi mk mo mj ml)) (w1 := fun u => ([] : va_W)) (fun u => (W_X5 cI m0 m1 m2 m3 m4 m5 m6 m7 m8 m9 m10 m11 mr mc me mw u2_0 mn mu ms mt md mz mi mk mo mj ml)) hP hK hD hN hS hA [] [0, 1, 2, 3, 4, 5, 6, 7, 8, 9, 10, 11] rfl rfl (by decide) (by decide) (by decide) [0, 1, 2, 3, 4, 5, 6, 7, 8, 9, 10, 11] (by decide) (fun _ => rfl) (fun hg => va_runS (As := [.int mr, .int a1]) (rest := []) ⟨hx, hb, hml, hown, hts⟩ (c_X5_has l D cI _ mr a1) (va_cwS 2 hts gX5_ticketOf_X5_has rfl rfl rfl (by decide +kernel) ⟨Nat.le_of_ble_eq_true rfl, Nat.le_of_ble_eq_true rfl⟩) ⟨PW.blind, fun U hU hW => ⟨rfl, hg U hU hW⟩⟩ rfl rfl hl.1 rfl (lv_room (Nat.le_of_ble_eq_true rfl)) dX5_ticketOf_19 ⟨Nat.le_of_ble_eq_true rfl, Nat.le_of_ble_eq_true rfl⟩) (fun r5 u H locs hw hP hD hS => ?_)
    obtain ⟨hw, hb5⟩ := hw
    subst hw
    refine lv_if_eq (tgt := 34) hx hb dX5_ticketOf_22 (by decide) (fun c6 => ?_) (fun c6 => ?_)
    · replace hp := hp.1 c6
      replace he := he.trans (if_pos c6)
      refine lv_iconst (v := (-1)) hx hb dX5_ticketOf_34 (by decide) ?_
      refine lv_goto (tgt := 39) hx hb dX5_ticketOf_35 (by decide) ?_
      subst he
      exact kont3 _ _ hP hD hS _ (lv_sub hl [] rfl)
    · replace hp := hp.2 c6
      replace he := he.trans (if_neg c6)
      refine lv_aload_n hx hb dX5_ticketOf_25 rfl (lv_at hl 1 rfl) ?_
      refine va_get (D := D) (ci := 5) (v := .ref m4) (C := RX5) (T := TX5) (N := 16) hx hb hts (by decide +kernel) hown hK hP 0 rfl rfl 4 (by decide) (hts (.fieldLink RX5 19 "AlarmgroveModel" "ticket" "[I") (by decide +kernel)) (fun _ h9 => h9) rfl dX5_ticketOf_26 ?_
      refine lv_iload_n hx hb dX5_ticketOf_29 rfl (lv_at hl 2 rfl) ?_
      have h7 := hp.1
      replace hp := hp.2
      refine va_iald hx hb hK hP 4 0 rfl rfl h7 dX5_ticketOf_30 ?_
      refine lv_goto (tgt := 39) hx hb dX5_ticketOf_31 (by decide) ?_
      subst he
      exact kont3 _ _ hP hD hS _ (lv_sub hl [] rfl)
