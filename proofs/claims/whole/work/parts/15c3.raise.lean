set_option maxHeartbeats 4000000 in
set_option maxRecDepth 100000 in
theorem c_X5_raise (l : Launch)  (D : va_G) (cI : ClassId) (m0 m1 m2 m3 m4 m5 m6 m7 m8 m9 m10 m11 : Nat) (mr : Int32) (mc : Int32) (me : Int32) (mw : Int32) (mh : Int32) (mn : AA) (mu : AA) (ms : AA) (mt : AA) (md : AA) (mz : AA) (mi : AA) (mk : AA) (mo : AA) (mj : AA) (ml : AA) (sz : Nat) (a1 : Int32) (hp : p_X5_raise mr mc me mw mu mt md mz mi mk mo mj ml a1) : Met l yX5_raise wsX5_raise rm_X5_raise (va_Pc [.ref m0, .int a1] (PW D [(cI, .int)] sz (W_X5 cI m0 m1 m2 m3 m4 m5 m6 m7 m8 m9 m10 m11 mr mc me mw mh mn mu ms mt md mz mi mk mo mj ml))) (Q_X5_raise D cI m0 m1 m2 m3 m4 m5 m6 m7 m8 m9 m10 m11 mr mc me mw mh mn mu ms mt md mz mi mk mo mj ml a1 (va_A (W_X5 cI m0 m1 m2 m3 m4 m5 m6 m7 m8 m9 m10 m11 mr mc me mw mh mn mu ms mt md mz mi mk mo mj ml) sz)) 0 0 (va_A (W_X5 cI m0 m1 m2 m3 m4 m5 m6 m7 m8 m9 m10 m11 mr mc me mw mh mn mu ms mt md mz mi mk mo mj ml) sz) := by
  refine Met.ofW (cc := cX5_raise) (maxL := 6) (ret := (some .int)) (by decide) rfl ?_
  intro p e s m args below meth c s₁ B hml hv
  obtain ⟨rfl, hsz, hP, hK, hD0, hN⟩ := hv
  have hx := B.exec
  have hb := B.bytes
  have hr := B.returns
  have hts := atoms_spec (ws := wsX5_raise) B.pre
  have hown : s.vm.findClass RX5 = some m.cls := findClass_of_methodNamed B.named
  have hlocks := B.notSynchronized
  subst hsz
  have hD := hD0.self (sz := s.heap.size)
  generalize hAe : va_A (W_X5 cI m0 m1 m2 m3 m4 m5 m6 m7 m8 m9 m10 m11 mr mc me mw mh mn mu ms mt md mz mi mk mo mj ml) s.heap.size = A at hD ⊢
  have hA : ∀ q : Nat, s.heap.size ≤ q → A q := fun q h => by rw [← hAe]; exact Or.inr h
  have hS : va_S A s.heap s.heap [] := va_S.rf
  have hl := lv_entry ([.ref m0, .int a1]) (n := 6) (Nat.le_of_ble_eq_true rfl)
  rw [lg_entry_eq]
  generalize (lg_sl ([.ref m0, .int a1]) ++ List.replicate (6 - (lg_sl ([.ref m0, .int a1])).length) Slot.unset).toArray = ls at hl ⊢
  have hl : lv_has ls 6 [(0, .ref m0), (1, .int a1)] := hl
  have he := f_X5_raise.eq_1 mr mc me mw mu ms mt md mz mi mk mo mj ml a1
  replace hp := Eq.mp (p_X5_raise.eq_1 ..) hp
  refine lv_iload_n hx hb dX5_raise_0 rfl (lv_at hl 1 rfl) ?_
  refine k_calli (S := Unit) (wc := ([] : va_W)) (wr := (W_X5 cI m0 m1 m2 m3 m4 m5 m6 m7 m8 m9 m10 m11 mr mc me mw mh mn mu ms mt md mz mi mk mo mj ml)) (w1 := fun u => ([] : va_W)) (fun u => (W_X5 cI m0 m1 m2 m3 m4 m5 m6 m7 m8 m9 m10 m11 mr mc me mw mh mn mu ms mt md mz mi mk mo mj ml)) hP hK hD hN hS hA [] [0, 1, 2, 3, 4, 5, 6, 7, 8, 9, 10, 11] rfl rfl (by decide) (by decide) (by decide) [0, 1, 2, 3, 4, 5, 6, 7, 8, 9, 10, 11] (by decide) (fun _ => rfl) (fun hg => va_runS (As := [.int a1]) (rest := []) ⟨hx, hb, hml, hown, hts⟩ (c_X5_isNode l D cI _ a1) (va_cwS 1 hts gX5_raise_X5_isNode rfl rfl rfl (by decide +kernel) ⟨Nat.le_of_ble_eq_true rfl, Nat.le_of_ble_eq_true rfl⟩) ⟨PW.blind, fun U hU hW => ⟨rfl, hg U hU hW⟩⟩ rfl rfl hl.1 rfl (lv_room (Nat.le_of_ble_eq_true rfl)) dX5_raise_1 ⟨Nat.le_of_ble_eq_true rfl, Nat.le_of_ble_eq_true rfl⟩) (fun r1 u H locs hw hP hD hS => ?_)
  obtain ⟨hw, hb1⟩ := hw
  subst hw
  refine lv_istore_n (lv' := [(2, .int (f_X5_isNode a1)), (0, .ref m0), (1, .int a1)]) hx hb dX5_raise_4 rfl hl (by decide) rfl (fun ls hl => ?_)
  refine lv_aload_n hx hb dX5_raise_5 rfl (lv_at hl 1 rfl) ?_
  refine lv_iload_n hx hb dX5_raise_6 rfl (lv_at hl 0 rfl) ?_
  refine lv_iload_n hx hb dX5_raise_7 rfl (lv_at hl 0 rfl) ?_
  obtain ⟨j2, hJ2⟩ : ∃ z : Int32, z = (if (f_X5_isNode a1) = 0 then (0 : Int32) else (if (f_X5_has mr a1) = 0 then (if 300 ≤ me then (0 : Int32) else (1 : Int32)) else (0 : Int32))) := ⟨_, rfl⟩
  rw [← hJ2] at he
  try dsimp only at he
  have hpJ2 := hp.1
  replace hp := hp.2 _  hJ2.symm
  have kont2 : (j2 = 0 ∨ j2 = 1) → ∀ (H : Heap) (locs : List Loc), va_P D vwCl (W_X5 cI m0 m1 m2 m3 m4 m5 m6 m7 m8 m9 m10 m11 mr mc me mw mh mn mu ms mt md mz mi mk mo mj ml) H → va_D A (W_X5 cI m0 m1 m2 m3 m4 m5 m6 m7 m8 m9 m10 m11 mr mc me mw mh mn mu ms mt md mz mi mk mo mj ml) → va_S A s.heap H locs → ∀ ls : Array Slot, lv_has ls 6 [(0, .ref m0), (1, .int a1)] → W p l e (headSpec wsX5_raise rm_X5_raise).room s m ([.ref m0, .int a1] : List Value).toArray below meth c H locs 0 0 (MQ below (Q_X5_raise D cI m0 m1 m2 m3 m4 m5 m6 m7 m8 m9 m10 m11 mr mc me mw mh mn mu ms mt md mz mi mk mo mj ml a1 A) ([.ref m0, .int a1] : List Value).toArray s 0 0 A) (F0 m 37 ls [.int j2, .int (f_X5_isNode a1), .ref m0]) := by
    intro hb2 H locs hP hD hS ls hl
    refine k_calli (S := Int32) (wc := (W_X5 cI m0 m1 m2 m3 m4 m5 m6 m7 m8 m9 m10 m11 mr mc me mw mh mn mu ms mt md mz mi mk mo mj ml)) (wr := ([] : va_W)) (w1 := fun u => (W_X5 cI m0 m1 m2 m3 m4 m5 m6 m7 m8 m9 m10 m11 mr mc me mw u mn mu ms mt md mz mi mk mo mj ml)) (fun u => (W_X5 cI m0 m1 m2 m3 m4 m5 m6 m7 m8 m9 m10 m11 mr mc me mw u mn mu ms mt md mz mi mk mo mj ml)) hP hK hD hN hS hA [0, 1, 2, 3, 4, 5, 6, 7, 8, 9, 10, 11] [] rfl rfl (by decide) (by decide) (by decide) [0, 1, 2, 3, 4, 5, 6, 7, 8, 9, 10, 11] (by decide) (fun _ => rfl) (fun hg => va_runV (As := [.int (f_X5_isNode a1), .int j2]) (rest := []) ⟨hx, hb, hml, hown, hts⟩ (c_X5_goes l D cI m0 m1 m2 m3 m4 m5 m6 m7 m8 m9 m10 m11 mr mc me mw mh mn mu ms mt md mz mi mk mo mj ml _ (f_X5_isNode a1) j2) (cwV 2 hts gX5_raise_X5_goes rfl rfl rfl (by decide +kernel) ⟨Nat.le_of_ble_eq_true rfl, Nat.le_of_ble_eq_true rfl⟩) ⟨PW.blind, va_recv hK hP (ci := 5) (q0 := 0) rfl rfl, fun U hU hW => ⟨rfl, hg U hU hW⟩⟩ rfl rfl hl.1 rfl (lv_room (Nat.le_of_ble_eq_true rfl)) dX5_raise_37 ⟨Nat.le_of_ble_eq_true rfl, Nat.le_of_ble_eq_true rfl⟩) (fun r7 u H locs hw hP hD hS => ?_)
    obtain ⟨u7_0, rfl⟩ : ∃ z, z = u := ⟨_, rfl⟩
    obtain ⟨hw, hb7⟩ := hw
    rw [hw] at he
    try dsimp only at he
    replace hp := hp r7 u7_0 hw
    have hP : va_P D vwCl (W_X5 cI m0 m1 m2 m3 m4 m5 m6 m7 m8 m9 m10 m11 mr mc me mw u7_0 mn mu ms mt md mz mi mk mo mj ml) H := hP
    have hD : va_D A (W_X5 cI m0 m1 m2 m3 m4 m5 m6 m7 m8 m9 m10 m11 mr mc me mw u7_0 mn mu ms mt md mz mi mk mo mj ml) := hD
    refine lv_if_ne (tgt := 45) hx hb dX5_raise_40 (by decide) (fun c8 => ?_) (fun c8 => ?_)
    · replace hp := hp.2 c8
      replace he := he.trans (if_neg c8)
      refine lv_aload_n hx hb dX5_raise_45 rfl (lv_at hl 0 rfl) ?_
      refine lv_iload_n hx hb dX5_raise_46 rfl (lv_at hl 1 rfl) ?_
      have hq9 := hp.1
      replace hp := hp.2
      refine k_calli (S := Unit) (wc := (W_X5 cI m0 m1 m2 m3 m4 m5 m6 m7 m8 m9 m10 m11 mr mc me mw u7_0 mn mu ms mt md mz mi mk mo mj ml)) (wr := ([] : va_W)) (w1 := fun u => (W_X5 cI m0 m1 m2 m3 m4 m5 m6 m7 m8 m9 m10 m11 mr mc me mw u7_0 mn mu ms mt md mz mi mk mo mj ml)) (fun u => (W_X5 cI m0 m1 m2 m3 m4 m5 m6 m7 m8 m9 m10 m11 mr mc me mw u7_0 mn mu ms mt md mz mi mk mo mj ml)) hP hK hD hN hS hA [0, 1, 2, 3, 4, 5, 6, 7, 8, 9, 10, 11] [] rfl rfl (by decide) (by decide) (by decide) [0, 1, 2, 3, 4, 5, 6, 7, 8, 9, 10, 11] (by decide) (fun _ => rfl) (fun hg => va_runV (As := [.int a1]) (rest := []) ⟨hx, hb, hml, hown, hts⟩ (c_X5_kin l D cI m0 m1 m2 m3 m4 m5 m6 m7 m8 m9 m10 m11 mr mc me mw u7_0 mn mu ms mt md mz mi mk mo mj ml _ a1 hq9) (cwV 1 hts gX5_raise_X5_kin rfl rfl rfl (by decide +kernel) ⟨Nat.le_of_ble_eq_true rfl, Nat.le_of_ble_eq_true rfl⟩) ⟨PW.blind, va_recv hK hP (ci := 5) (q0 := 0) rfl rfl, fun U hU hW => ⟨rfl, hg U hU hW⟩⟩ rfl rfl hl.1 rfl (lv_room (Nat.le_of_ble_eq_true rfl)) dX5_raise_47 ⟨Nat.le_of_ble_eq_true rfl, Nat.le_of_ble_eq_true rfl⟩) (fun r9 u H locs hw hP hD hS => ?_)
      subst hw
      refine lv_aload_n hx hb dX5_raise_50 rfl (lv_at hl 0 rfl) ?_
      refine va_get (D := D) (ci := 5) (v := .int mr) (C := RX5) (T := TX5) (N := 16) hx hb hts (by decide +kernel) hown hK hP 0 rfl rfl 2 (by decide) (hts (.fieldLink RX5 68 "AlarmgroveModel" "raised" "I") (by decide +kernel)) (fun _ h9 => h9) rfl dX5_raise_51 ?_
      refine lv_iand hx hb dX5_raise_54 ?_
      refine lv_istore_n (lv' := [(3, .int ((f_X5_kin mu a1) &&& mr)), (0, .ref m0), (1, .int a1)]) hx hb dX5_raise_55 rfl hl (by decide) rfl (fun ls hl => ?_)
      refine lv_iconst (v := (-1)) hx hb dX5_raise_56 (by decide) ?_
      refine lv_istore (lv' := [(4, .int (-1)), (3, .int ((f_X5_kin mu a1) &&& mr)), (0, .ref m0), (1, .int a1)]) hx hb dX5_raise_57 hl (by decide) rfl (fun ls hl => ?_)
      refine lv_iconst (v := 0) hx hb dX5_raise_59 (by decide) ?_
      refine lv_istore (lv' := [(5, .int 0), (4, .int (-1)), (3, .int ((f_X5_kin mu a1) &&& mr)), (0, .ref m0), (1, .int a1)]) hx hb dX5_raise_60 hl (by decide) rfl (fun ls hl => ?_)
      obtain ⟨⟨r10_v62_4, r10_v62_5⟩, hL10⟩ : ∃ z, z = f_X5_raise_L62 mr mu mt a1 15 ((-1) : Int32) (0 : Int32) := ⟨_, rfl⟩
      rw [← hL10] at he
      try dsimp only at he
      have hpL10 := hp.1
      replace hp := hp.2 _ _ hL10.symm
      have kont10 : ∀ (x10_v62_4 : Int32) (x10_v62_5 : Int32), (r10_v62_4, r10_v62_5) = (x10_v62_4, x10_v62_5) → ∀ (H : Heap) (locs : List Loc), va_P D vwCl (W_X5 cI m0 m1 m2 m3 m4 m5 m6 m7 m8 m9 m10 m11 mr mc me mw u7_0 mn mu ms mt md mz mi mk mo mj ml) H → va_D A (W_X5 cI m0 m1 m2 m3 m4 m5 m6 m7 m8 m9 m10 m11 mr mc me mw u7_0 mn mu ms mt md mz mi mk mo mj ml) → va_S A s.heap H locs → ∀ ls : Array Slot, lv_has ls 6 [(4, .int x10_v62_4), (3, .int ((f_X5_kin mu a1) &&& mr)), (0, .ref m0), (1, .int a1)] → W p l e (headSpec wsX5_raise rm_X5_raise).room s m ([.ref m0, .int a1] : List Value).toArray below meth c H locs 0 0 (MQ below (Q_X5_raise D cI m0 m1 m2 m3 m4 m5 m6 m7 m8 m9 m10 m11 mr mc me mw mh mn mu ms mt md mz mi mk mo mj ml a1 A) ([.ref m0, .int a1] : List Value).toArray s 0 0 A) (F0 m 115 ls []) := by
        intro x10_v62_4 x10_v62_5 hxe H locs hP hD hS ls hl
        simp only [Prod.mk.injEq] at hxe
        obtain ⟨rfl, rfl⟩ := hxe
        exact c_X5_raise_k10 B hml hK hN hA u7_0 r10_v62_4 hp he H locs hP hD hS ls hl
      have loop10 : ∀ (n : Nat) (v62_4 : Int32) (v62_5 : Int32), p_X5_raise_L62 mr mu mt a1 n v62_4 v62_5 → (r10_v62_4, r10_v62_5) = f_X5_raise_L62 mr mu mt a1 n v62_4 v62_5 → ∀ (H : Heap) (locs : List Loc), va_P D vwCl (W_X5 cI m0 m1 m2 m3 m4 m5 m6 m7 m8 m9 m10 m11 mr mc me mw u7_0 mn mu ms mt md mz mi mk mo mj ml) H → va_D A (W_X5 cI m0 m1 m2 m3 m4 m5 m6 m7 m8 m9 m10 m11 mr mc me mw u7_0 mn mu ms mt md mz mi mk mo mj ml) → va_S A s.heap H locs → ∀ ls : Array Slot, lv_has ls 6 [(5, .int v62_5), (4, .int v62_4), (3, .int ((f_X5_kin mu a1) &&& mr)), (0, .ref m0), (1, .int a1)] → W p l e (headSpec wsX5_raise rm_X5_raise).room s m ([.ref m0, .int a1] : List Value).toArray below meth c H locs 0 0 (MQ below (Q_X5_raise D cI m0 m1 m2 m3 m4 m5 m6 m7 m8 m9 m10 m11 mr mc me mw mh mn mu ms mt md mz mi mk mo mj ml a1 A) ([.ref m0, .int a1] : List Value).toArray s 0 0 A) (F0 m 62 ls []) := by
        intro n
        induction n with
        | zero => exact fun _ _ hp => hp.elim
        | succ n ih =>
          intro v62_4 v62_5 hp he H locs hP hD hS ls hl
          replace hp := Eq.mp (p_X5_raise_L62.eq_2 ..) hp
          replace he := he.trans (f_X5_raise_L62.eq_2 ..)
          refine lv_iload hx hb dX5_raise_62 (lv_at hl 0 rfl) ?_
          refine lv_bipush (v := 14) hx hb dX5_raise_64 (by decide) ?_
          refine lv_icmp_ge (tgt := 115) hx hb dX5_raise_66 (by decide) (fun c11 => ?_) (fun c11 => ?_)
          · replace hp := hp.1 c11
            replace he := he.trans (if_pos c11)
            exact kont10 _ _ he _ _ hP hD hS _ (lv_sub hl [1, 2, 3, 4] rfl)
          · replace hp := hp.2 c11
            replace he := he.trans (if_neg c11)
            refine lv_iload_n hx hb dX5_raise_69 rfl (lv_at hl 2 rfl) ?_
            refine lv_iload hx hb dX5_raise_70 (lv_at hl 0 rfl) ?_
            refine k_calli (S := Unit) (wc := ([] : va_W)) (wr := (W_X5 cI m0 m1 m2 m3 m4 m5 m6 m7 m8 m9 m10 m11 mr mc me mw u7_0 mn mu ms mt md mz mi mk mo mj ml)) (w1 := fun u => ([] : va_W)) (fun u => (W_X5 cI m0 m1 m2 m3 m4 m5 m6 m7 m8 m9 m10 m11 mr mc me mw u7_0 mn mu ms mt md mz mi mk mo mj ml)) hP hK hD hN hS hA [] [0, 1, 2, 3, 4, 5, 6, 7, 8, 9, 10, 11] rfl rfl (by decide) (by decide) (by decide) [0, 1, 2, 3, 4, 5, 6, 7, 8, 9, 10, 11] (by decide) (fun _ => rfl) (fun hg => va_runS (As := [.int ((f_X5_kin mu a1) &&& mr), .int v62_5]) (rest := []) ⟨hx, hb, hml, hown, hts⟩ (c_X5_has l D cI _ ((f_X5_kin mu a1) &&& mr) v62_5) (va_cwS 2 hts gX5_raise_X5_has rfl rfl rfl (by decide +kernel) ⟨Nat.le_of_ble_eq_true rfl, Nat.le_of_ble_eq_true rfl⟩) ⟨PW.blind, fun U hU hW => ⟨rfl, hg U hU hW⟩⟩ rfl rfl hl.1 rfl (lv_room (Nat.le_of_ble_eq_true rfl)) dX5_raise_72 ⟨Nat.le_of_ble_eq_true rfl, Nat.le_of_ble_eq_true rfl⟩) (fun r12 u H locs hw hP hD hS => ?_)
            obtain ⟨hw, hb12⟩ := hw
            subst hw
            obtain ⟨j13, hJ13⟩ : ∃ z : Int32, z = (if (f_X5_has ((f_X5_kin mu a1) &&& mr) v62_5) = 0 then v62_4 else (if v62_4 < 0 then (mt (v62_5).toNatClampNeg) else (if v62_4 ≤ (mt (v62_5).toNatClampNeg) then v62_4 else (mt (v62_5).toNatClampNeg)))) := ⟨_, rfl⟩
            rw [← hJ13] at he
            try dsimp only at he
            have hpJ13 := hp.1
            replace hp := hp.2 _  hJ13.symm
            have kont13 : ∀ (H : Heap) (locs : List Loc), va_P D vwCl (W_X5 cI m0 m1 m2 m3 m4 m5 m6 m7 m8 m9 m10 m11 mr mc me mw u7_0 mn mu ms mt md mz mi mk mo mj ml) H → va_D A (W_X5 cI m0 m1 m2 m3 m4 m5 m6 m7 m8 m9 m10 m11 mr mc me mw u7_0 mn mu ms mt md mz mi mk mo mj ml) → va_S A s.heap H locs → ∀ ls : Array Slot, lv_has ls 6 [(5, .int v62_5), (3, .int ((f_X5_kin mu a1) &&& mr)), (0, .ref m0), (1, .int a1)] → W p l e (headSpec wsX5_raise rm_X5_raise).room s m ([.ref m0, .int a1] : List Value).toArray below meth c H locs 0 0 (MQ below (Q_X5_raise D cI m0 m1 m2 m3 m4 m5 m6 m7 m8 m9 m10 m11 mr mc me mw mh mn mu ms mt md mz mi mk mo mj ml a1 A) ([.ref m0, .int a1] : List Value).toArray s 0 0 A) (F0 m 107 ls [.int j13]) := by
              intro H locs hP hD hS ls hl
              refine lv_istore (lv' := [(4, .int j13), (5, .int v62_5), (3, .int ((f_X5_kin mu a1) &&& mr)), (0, .ref m0), (1, .int a1)]) hx hb dX5_raise_107 hl (by decide) rfl (fun ls hl => ?_)
              refine lv_iinc (v := (v62_5 + 1)) (lv' := [(5, .int (v62_5 + 1)), (4, .int j13), (3, .int ((f_X5_kin mu a1) &&& mr)), (0, .ref m0), (1, .int a1)]) hx hb dX5_raise_109 hl (k := 1) rfl rfl (by decide) rfl (fun ls hl => ?_)
              refine lv_goto (tgt := 62) hx hb dX5_raise_112 (by decide) ?_
              exact ih _ _ hp he _ _ hP hD hS _ (lv_sub hl [0, 1, 2, 3, 4] rfl)
            replace he := hJ13
            replace hp := hpJ13
            refine lv_if_eq (tgt := 105) hx hb dX5_raise_75 (by decide) (fun c14 => ?_) (fun c14 => ?_)
            · replace hp := hp.1 c14
              replace he := he.trans (if_pos c14)
              refine lv_iload hx hb dX5_raise_105 (lv_at hl 1 rfl) ?_
              subst he
              exact kont13 _ _ hP hD hS _ (lv_sub hl [0, 2, 3, 4] rfl)
            · replace hp := hp.2 c14
              replace he := he.trans (if_neg c14)
              refine lv_iload hx hb dX5_raise_78 (lv_at hl 1 rfl) ?_
              refine lv_if_lt (tgt := 95) hx hb dX5_raise_80 (by decide) (fun c15 => ?_) (fun c15 => ?_)
              · replace hp := hp.1 c15
                replace he := he.trans (if_pos c15)
                refine lv_aload_n hx hb dX5_raise_95 rfl (lv_at hl 3 rfl) ?_
                refine va_get (D := D) (ci := 5) (v := .ref m4) (C := RX5) (T := TX5) (N := 16) hx hb hts (by decide +kernel) hown hK hP 0 rfl rfl 4 (by decide) (hts (.fieldLink RX5 19 "AlarmgroveModel" "ticket" "[I") (by decide +kernel)) (fun _ h9 => h9) rfl dX5_raise_96 ?_
                refine lv_iload hx hb dX5_raise_99 (lv_at hl 0 rfl) ?_
                have h16 := hp.1
                replace hp := hp.2
                refine va_iald hx hb hK hP 4 0 rfl rfl h16 dX5_raise_101 ?_
                refine lv_goto (tgt := 107) hx hb dX5_raise_102 (by decide) ?_
                subst he
                exact kont13 _ _ hP hD hS _ (lv_sub hl [0, 2, 3, 4] rfl)
              · replace hp := hp.2 c15
                replace he := he.trans (if_neg c15)
                refine lv_aload_n hx hb dX5_raise_83 rfl (lv_at hl 3 rfl) ?_
                refine va_get (D := D) (ci := 5) (v := .ref m4) (C := RX5) (T := TX5) (N := 16) hx hb hts (by decide +kernel) hown hK hP 0 rfl rfl 4 (by decide) (hts (.fieldLink RX5 19 "AlarmgroveModel" "ticket" "[I") (by decide +kernel)) (fun _ h9 => h9) rfl dX5_raise_84 ?_
                refine lv_iload hx hb dX5_raise_87 (lv_at hl 0 rfl) ?_
                have h17 := hp.1
                replace hp := hp.2
                refine va_iald hx hb hK hP 4 0 rfl rfl h17 dX5_raise_89 ?_
                refine lv_iload hx hb dX5_raise_90 (lv_at hl 1 rfl) ?_
                refine lv_icmp_ge (tgt := 105) hx hb dX5_raise_92 (by decide) (fun c18 => ?_) (fun c18 => ?_)
                · replace hp := hp.1 c18
                  replace he := he.trans (if_pos c18)
                  refine lv_iload hx hb dX5_raise_105 (lv_at hl 1 rfl) ?_
                  subst he
                  exact kont13 _ _ hP hD hS _ (lv_sub hl [0, 2, 3, 4] rfl)
                · replace hp := hp.2 c18
                  replace he := he.trans (if_neg c18)
                  refine lv_aload_n hx hb dX5_raise_95 rfl (lv_at hl 3 rfl) ?_
                  refine va_get (D := D) (ci := 5) (v := .ref m4) (C := RX5) (T := TX5) (N := 16) hx hb hts (by decide +kernel) hown hK hP 0 rfl rfl 4 (by decide) (hts (.fieldLink RX5 19 "AlarmgroveModel" "ticket" "[I") (by decide +kernel)) (fun _ h9 => h9) rfl dX5_raise_96 ?_
                  refine lv_iload hx hb dX5_raise_99 (lv_at hl 0 rfl) ?_
                  have h19 := hp.1
                  replace hp := hp.2
                  refine va_iald hx hb hK hP 4 0 rfl rfl h19 dX5_raise_101 ?_
                  refine lv_goto (tgt := 107) hx hb dX5_raise_102 (by decide) ?_
                  subst he
                  exact kont13 _ _ hP hD hS _ (lv_sub hl [0, 2, 3, 4] rfl)
      exact loop10 15 ((-1) : Int32) (0 : Int32) hpL10 hL10 _ _ hP hD hS _ (lv_sub hl [0, 1, 2, 3, 4] rfl)
    · replace hp := hp.1 c8
      replace he := he.trans (if_pos c8)
      refine lv_iconst (v := 0) hx hb dX5_raise_43 (by decide) ?_
      exact W.iret (v := 0) hx hb hr (fun t ht hW => ⟨⟨0, (mr, mc, me, u7_0, ms, mt, md, mz, mi, mk, mo, mj, ml), rfl, he, by rw [ht]; exact hP, va_K.moved hW.alike hK, hD⟩, hS.F ht⟩) hS.2.2 dX5_raise_44
  replace he := hJ2
  replace hp := hpJ2
  refine lv_if_eq (tgt := 36) hx hb dX5_raise_8 (by decide) (fun c3 => ?_) (fun c3 => ?_)
  · replace hp := hp.1 c3
    replace he := he.trans (if_pos c3)
    refine lv_iconst (v := 0) hx hb dX5_raise_36 (by decide) ?_
    subst he
    exact kont2 (Or.inl rfl) _ _ hP hD hS _ (lv_sub hl [1, 2] rfl)
  · replace hp := hp.2 c3
    replace he := he.trans (if_neg c3)
    refine lv_aload_n hx hb dX5_raise_11 rfl (lv_at hl 1 rfl) ?_
    refine va_get (D := D) (ci := 5) (v := .int mr) (C := RX5) (T := TX5) (N := 16) hx hb hts (by decide +kernel) hown hK hP 0 rfl rfl 2 (by decide) (hts (.fieldLink RX5 68 "AlarmgroveModel" "raised" "I") (by decide +kernel)) (fun _ h9 => h9) rfl dX5_raise_12 ?_
    refine lv_iload_n hx hb dX5_raise_15 rfl (lv_at hl 2 rfl) ?_
    refine k_calli (S := Unit) (wc := ([] : va_W)) (wr := (W_X5 cI m0 m1 m2 m3 m4 m5 m6 m7 m8 m9 m10 m11 mr mc me mw mh mn mu ms mt md mz mi mk mo mj ml)) (w1 := fun u => ([] : va_W)) (fun u => (W_X5 cI m0 m1 m2 m3 m4 m5 m6 m7 m8 m9 m10 m11 mr mc me mw mh mn mu ms mt md mz mi mk mo mj ml)) hP hK hD hN hS hA [] [0, 1, 2, 3, 4, 5, 6, 7, 8, 9, 10, 11] rfl rfl (by decide) (by decide) (by decide) [0, 1, 2, 3, 4, 5, 6, 7, 8, 9, 10, 11] (by decide) (fun _ => rfl) (fun hg => va_runS (As := [.int mr, .int a1]) (rest := [.int (f_X5_isNode a1), .ref m0]) ⟨hx, hb, hml, hown, hts⟩ (c_X5_has l D cI _ mr a1) (va_cwS 2 hts gX5_raise_X5_has rfl rfl rfl (by decide +kernel) ⟨Nat.le_of_ble_eq_true rfl, Nat.le_of_ble_eq_true rfl⟩) ⟨PW.blind, fun U hU hW => ⟨rfl, hg U hU hW⟩⟩ rfl rfl hl.1 rfl (lv_room (Nat.le_of_ble_eq_true rfl)) dX5_raise_16 ⟨Nat.le_of_ble_eq_true rfl, Nat.le_of_ble_eq_true rfl⟩) (fun r4 u H locs hw hP hD hS => ?_)
    obtain ⟨hw, hb4⟩ := hw
    subst hw
    refine lv_if_ne (tgt := 36) hx hb dX5_raise_19 (by decide) (fun c5 => ?_) (fun c5 => ?_)
    · replace hp := hp.2 c5
      replace he := he.trans (if_neg c5)
      refine lv_iconst (v := 0) hx hb dX5_raise_36 (by decide) ?_
      subst he
      exact kont2 (Or.inl rfl) _ _ hP hD hS _ (lv_sub hl [1, 2] rfl)
    · replace hp := hp.1 c5
      replace he := he.trans (if_pos c5)
      refine lv_aload_n hx hb dX5_raise_22 rfl (lv_at hl 1 rfl) ?_
      refine va_get (D := D) (ci := 5) (v := .int me) (C := RX5) (T := TX5) (N := 16) hx hb hts (by decide +kernel) hown hK hP 0 rfl rfl 13 (by decide) (hts (.fieldLink RX5 65 "AlarmgroveModel" "events" "I") (by decide +kernel)) (fun _ h9 => h9) rfl dX5_raise_23 ?_
      refine lv_sipush (v := 300) hx hb dX5_raise_26 (by decide) ?_
      refine lv_icmp_ge (tgt := 36) hx hb dX5_raise_29 (by decide) (fun c6 => ?_) (fun c6 => ?_)
      · replace hp := hp.1 c6
        replace he := he.trans (if_pos c6)
        refine lv_iconst (v := 0) hx hb dX5_raise_36 (by decide) ?_
        subst he
        exact kont2 (Or.inl rfl) _ _ hP hD hS _ (lv_sub hl [1, 2] rfl)
      · replace hp := hp.2 c6
        replace he := he.trans (if_neg c6)
        refine lv_iconst (v := 1) hx hb dX5_raise_32 (by decide) ?_
        refine lv_goto (tgt := 37) hx hb dX5_raise_33 (by decide) ?_
        subst he
        exact kont2 (Or.inr rfl) _ _ hP hD hS _ (lv_sub hl [1, 2] rfl)

