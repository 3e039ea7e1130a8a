abbrev rm_X5_tick : Room := { frames := 1, cells := 0, slots := 0, locals := 22 }
abbrev Q_X5_tick (D : va_G) (cI : ClassId) (m0 m1 m2 m3 m4 m5 m6 m7 m8 m9 m10 m11 : Nat) (mr : Int32) (mc : Int32) (me : Int32) (mw : Int32) (mh : Int32) (mn : AA) (mu : AA) (ms : AA) (mt : AA) (md : AA) (mz : AA) (mi : AA) (mk : AA) (mo : AA) (mj : AA) (ml : AA) (a1 : Int32) (A : Nat → Prop) : Array Value → State → Outcome → State → Prop := va_Qi (S := Int32 × Int32) (fun r u => f_X5_tick mw a1 = (r, u)) (fun u t => QW D [(cI, .int)] A (W_X5 cI m0 m1 m2 m3 m4 m5 m6 m7 m8 m9 m10 m11 mr mc me u.1 u.2 mn mu ms mt md mz mi mk mo mj ml) t) A
set_option maxHeartbeats 4000000 in
set_option maxRecDepth 100000 in
theorem c_X5_tick (l : Launch)  (D : va_G) (cI : ClassId) (m0 m1 m2 m3 m4 m5 m6 m7 m8 m9 m10 m11 : Nat) (mr : Int32) (mc : Int32) (me : Int32) (mw : Int32) (mh : Int32) (mn : AA) (mu : AA) (ms : AA) (mt : AA) (md : AA) (mz : AA) (mi : AA) (mk : AA) (mo : AA) (mj : AA) (ml : AA) (sz : Nat) (a1 : Int32) : Met l yX5_tick wsX5_tick rm_X5_tick (va_Pc [.ref m0, .int a1] (PW D [(cI, .int)] sz (W_X5 cI m0 m1 m2 m3 m4 m5 m6 m7 m8 m9 m10 m11 mr mc me mw mh mn mu ms mt md mz mi mk mo mj ml))) (Q_X5_tick D cI m0 m1 m2 m3 m4 m5 m6 m7 m8 m9 m10 m11 mr mc me mw mh mn mu ms mt md mz mi mk mo mj ml a1 (va_A (W_X5 cI m0 m1 m2 m3 m4 m5 m6 m7 m8 m9 m10 m11 mr mc me mw mh mn mu ms mt md mz mi mk mo mj ml) sz)) 0 0 (va_A (W_X5 cI m0 m1 m2 m3 m4 m5 m6 m7 m8 m9 m10 m11 mr mc me mw mh mn mu ms mt md mz mi mk mo mj ml) sz) := by
  refine Met.ofW (cc := cX5_tick) (maxL := 2) (ret := (some .int)) (by decide) rfl ?_
  intro p e s m args below meth c s₁ B hml hv
  obtain ⟨rfl, hsz, hP, hK, hD0, hN⟩ := hv
  have hx := B.exec
  have hb := B.bytes
  have hr := B.returns
  have hts := atoms_spec (ws := wsX5_tick) B.pre
  have hown : s.vm.findClass RX5 = some m.cls := findClass_of_methodNamed B.named
  have hlocks := B.notSynchronized
  subst hsz
  have hD := hD0.self (sz := s.heap.size)
  generalize hAe : va_A (W_X5 cI m0 m1 m2 m3 m4 m5 m6 m7 m8 m9 m10 m11 mr mc me mw mh mn mu ms mt md mz mi mk mo mj ml) s.heap.size = A at hD ⊢
  have hA : ∀ q : Nat, s.heap.size ≤ q → A q := fun q h => by rw [← hAe]; exact Or.inr h
  have hS : va_S A s.heap s.heap [] := va_S.rf
  have hl := lv_entry ([.ref m0, .int a1]) (n := 2) (Nat.le_of_ble_eq_true rfl)
  rw [lg_entry_eq]
  generalize (lg_sl ([.ref m0, .int a1]) ++ List.replicate (2 - (lg_sl ([.ref m0, .int a1])).length) Slot.unset).toArray = ls at hl ⊢
  have hl : lv_has ls 2 [(0, .ref m0), (1, .int a1)] := hl
  have he := f_X5_tick.eq_1 mw a1
  refine lv_aload_n hx hb dX5_tick_0 rfl (lv_at hl 0 rfl) ?_
  refine lv_iload_n hx hb dX5_tick_1 rfl (lv_at hl 1 rfl) ?_
  refine lv_iconst (v := 1) hx hb dX5_tick_2 (by decide) ?_
  obtain ⟨j1, hJ1⟩ : ∃ z : Int32, z = (if a1 < 1 then (0 : Int32) else (if 100 < a1 then (0 : Int32) else (1 : Int32))) := ⟨_, rfl⟩
  rw [← hJ1] at he
  try dsimp only at he
  have kont1 : (j1 = 0 ∨ j1 = 1) → ∀ (H : Heap) (locs : List Loc), va_P D vwCl (W_X5 cI m0 m1 m2 m3 m4 m5 m6 m7 m8 m9 m10 m11 mr mc me mw mh mn mu ms mt md mz mi mk mo mj ml) H → va_D A (W_X5 cI m0 m1 m2 m3 m4 m5 m6 m7 m8 m9 m10 m11 mr mc me mw mh mn mu ms mt md mz mi mk mo mj ml) → va_S A s.heap H locs → ∀ ls : Array Slot, lv_has ls 2 [(0, .ref m0), (1, .int a1)] → W p l e (headSpec wsX5_tick rm_X5_tick).room s m ([.ref m0, .int a1] : List Value).toArray below meth c H locs 0 0 (MQ below (Q_X5_tick D cI m0 m1 m2 m3 m4 m5 m6 m7 m8 m9 m10 m11 mr mc me mw mh mn mu ms mt md mz mi mk mo mj ml a1 A) ([.ref m0, .int a1] : List Value).toArray s 0 0 A) (F0 m 17 ls [.int j1, .ref m0]) := by
    intro hb1 H locs hP hD hS ls hl
    refine lv_iconst (v := 1) hx hb dX5_tick_17 (by decide) ?_
    refine k_calli (S := Int32) (wc := (W_X5 cI m0 m1 m2 m3 m4 m5 m6 m7 m8 m9 m10 m11 mr mc me mw mh mn mu ms mt md mz mi mk mo mj ml)) (wr := ([] : va_W)) (w1 := fun u => (W_X5 cI m0 m1 m2 m3 m4 m5 m6 m7 m8 m9 m10 m11 mr mc me mw u mn mu ms mt md mz mi mk mo mj ml)) (fun u => (W_X5 cI m0 m1 m2 m3 m4 m5 m6 m7 m8 m9 m10 m11 mr mc me mw u mn mu ms mt md mz mi mk mo mj ml)) hP hK hD hN hS hA [0, 1, 2, 3, 4, 5, 6, 7, 8, 9, 10, 11] [] rfl rfl (by decide) (by decide) (by decide) [0, 1, 2, 3, 4, 5, 6, 7, 8, 9, 10, 11] (by decide) (fun _ => rfl) (fun hg => va_runV (As := [.int j1, .int 1]) (rest := []) ⟨hx, hb, hml, hown, hts⟩ (c_X5_goes l D cI m0 m1 m2 m3 m4 m5 m6 m7 m8 m9 m10 m11 mr mc me mw mh mn mu ms mt md mz mi mk mo mj ml _ j1 1) (cwV 2 hts gX5_tick_X5_goes rfl rfl rfl (by decide +kernel) ⟨Nat.le_of_ble_eq_true rfl, Nat.le_of_ble_eq_true rfl⟩) ⟨PW.blind, va_recv hK hP (ci := 5) (q0 := 0) rfl rfl, fun U hU hW => ⟨rfl, hg U hU hW⟩⟩ rfl rfl hl.1 rfl (lv_room (Nat.le_of_ble_eq_true rfl)) dX5_tick_18 ⟨Nat.le_of_ble_eq_true rfl, Nat.le_of_ble_eq_true rfl⟩) (fun r4 u H locs hw hP hD hS => ?_)
    obtain ⟨u4_0, rfl⟩ : ∃ z, z = u := ⟨_, rfl⟩
    obtain ⟨hw, hb4⟩ := hw
    rw [hw] at he
    try dsimp only at he
    have hP : va_P D vwCl (W_X5 cI m0 m1 m2 m3 m4 m5 m6 m7 m8 m9 m10 m11 mr mc me mw u4_0 mn mu ms mt md mz mi mk mo mj ml) H := hP
    have hD : va_D A (W_X5 cI m0 m1 m2 m3 m4 m5 m6 m7 m8 m9 m10 m11 mr mc me mw u4_0 mn mu ms mt md mz mi mk mo mj ml) := hD
    refine lv_if_ne (tgt := 26) hx hb dX5_tick_21 (by decide) (fun c5 => ?_) (fun c5 => ?_)
    · replace he := he.trans (if_neg c5)
      refine lv_aload_n hx hb dX5_tick_26 rfl (lv_at hl 0 rfl) ?_
      refine lv_dup hx hb dX5_tick_27 rfl ?_
      refine va_get (D := D) (ci := 5) (v := .int mw) (C := RX5) (T := TX5) (N := 16) hx hb hts (by decide +kernel) hown hK hP 0 rfl rfl 14 (by decide) (hts (.fieldLink RX5 62 "AlarmgroveModel" "now" "I") (by decide +kernel)) (fun _ h9 => h9) rfl dX5_tick_28 ?_
      refine lv_iload_n hx hb dX5_tick_31 rfl (lv_at hl 1 rfl) ?_
      refine lv_iadd hx hb dX5_tick_32 ?_
      refine va_put (D := D) (ci := 5) (v := .int (mw + a1)) (ty := .int) (C := RX5) (T := TX5) (N := 16) hx hb hts (by decide +kernel) tyX5 tyX5_ok nmX5 hown hK hP hD hS 0 rfl rfl 14 (by decide) (hts (.fieldLink RX5 62 "AlarmgroveModel" "now" "I") (by decide +kernel)) (fun _ h9 => h9) rfl (by decide +kernel) rfl rfl (Nat.le_of_ble_eq_true rfl) dX5_tick_33 (fun H locs hP hD hS => ?_)
      have hP : va_P D vwCl (W_X5 cI m0 m1 m2 m3 m4 m5 m6 m7 m8 m9 m10 m11 mr mc me (mw + a1) u4_0 mn mu ms mt md mz mi mk mo mj ml) H := hP
      have hD : va_D A (W_X5 cI m0 m1 m2 m3 m4 m5 m6 m7 m8 m9 m10 m11 mr mc me (mw + a1) u4_0 mn mu ms mt md mz mi mk mo mj ml) := hD
      refine lv_aload_n hx hb dX5_tick_36 rfl (lv_at hl 0 rfl) ?_
      refine va_get (D := D) (ci := 5) (v := .int (mw + a1)) (C := RX5) (T := TX5) (N := 16) hx hb hts (by decide +kernel) hown hK hP 0 rfl rfl 14 (by decide) (hts (.fieldLink RX5 62 "AlarmgroveModel" "now" "I") (by decide +kernel)) (fun _ h9 => h9) rfl dX5_tick_37 ?_
      exact W.iret (v := (mw + a1)) hx hb hr (fun t ht hW => ⟨⟨(mw + a1), ((mw + a1), u4_0), rfl, he, by rw [ht]; exact hP, va_K.moved hW.alike hK, hD⟩, hS.F ht⟩) hS.2.2 dX5_tick_40
    · replace he := he.trans (if_pos c5)
      refine lv_iconst (v := 0) hx hb dX5_tick_24 (by decide) ?_
      exact W.iret (v := 0) hx hb hr (fun t ht hW => ⟨⟨0, (mw, u4_0), rfl, he, by rw [ht]; exact hP, va_K.moved hW.alike hK, hD⟩, hS.F ht⟩) hS.2.2 dX5_tick_25
  replace he := hJ1
  refine lv_icmp_lt (tgt := 16) hx hb dX5_tick_3 (by decide) (fun c2 => ?_) (fun c2 => ?_)
  · replace he := he.trans (if_pos c2)
    refine lv_iconst (v := 0) hx hb dX5_tick_16 (by decide) ?_
    subst he
    exact kont1 (Or.inl rfl) _ _ hP hD hS _ (lv_sub hl [0, 1] rfl)
  · replace he := he.trans (if_neg c2)
    refine lv_iload_n hx hb dX5_tick_6 rfl (lv_at hl 1 rfl) ?_
    refine lv_bipush (v := 100) hx hb dX5_tick_7 (by decide) ?_
    refine lv_icmp_gt (tgt := 16) hx hb dX5_tick_9 (by decide) (fun c3 => ?_) (fun c3 => ?_)
    · replace he := he.trans (if_pos c3)
      refine lv_iconst (v := 0) hx hb dX5_tick_16 (by decide) ?_
      subst he
      exact kont1 (Or.inl rfl) _ _ hP hD hS _ (lv_sub hl [0, 1] rfl)
    · replace he := he.trans (if_neg c3)
      refine lv_iconst (v := 1) hx hb dX5_tick_12 (by decide) ?_
      refine lv_goto (tgt := 17) hx hb dX5_tick_13 (by decide) ?_
      subst he
      exact kont1 (Or.inr rfl) _ _ hP hD hS _ (lv_sub hl [0, 1] rfl)
abbrev rm_X5_now : Room := { frames := 0, cells := 0, slots := 0, locals := 0 }
abbrev Q_X5_now (D : va_G) (cI : ClassId) (m0 m1 m2 m3 m4 m5 m6 m7 m8 m9 m10 m11 : Nat) (mr : Int32) (mc : Int32) (me : Int32) (mw : Int32) (mh : Int32) (mn : AA) (mu : AA) (ms : AA) (mt : AA) (md : AA) (mz : AA) (mi : AA) (mk : AA) (mo : AA) (mj : AA) (ml : AA) (A : Nat → Prop) : Array Value → State → Outcome → State → Prop := va_Qi (S := Int32) (fun r u => f_X5_now mw = (r, u)) (fun u t => QW D [(cI, .int)] A (W_X5 cI m0 m1 m2 m3 m4 m5 m6 m7 m8 m9 m10 m11 mr mc me mw u mn mu ms mt md mz mi mk mo mj ml) t) A
set_option maxHeartbeats 4000000 in
set_option maxRecDepth 100000 in
theorem c_X5_now (l : Launch)  (D : va_G) (cI : ClassId) (m0 m1 m2 m3 m4 m5 m6 m7 m8 m9 m10 m11 : Nat) (mr : Int32) (mc : Int32) (me : Int32) (mw : Int32) (mh : Int32) (mn : AA) (mu : AA) (ms : AA) (mt : AA) (md : AA) (mz : AA) (mi : AA) (mk : AA) (mo : AA) (mj : AA) (ml : AA) (sz : Nat) : Met l yX5_now wsX5_now rm_X5_now (va_Pc [.ref m0] (PW D [(cI, .int)] sz (W_X5 cI m0 m1 m2 m3 m4 m5 m6 m7 m8 m9 m10 m11 mr mc me mw mh mn mu ms mt md mz mi mk mo mj ml))) (Q_X5_now D cI m0 m1 m2 m3 m4 m5 m6 m7 m8 m9 m10 m11 mr mc me mw mh mn mu ms mt md mz mi mk mo mj ml (va_A (W_X5 cI m0 m1 m2 m3 m4 m5 m6 m7 m8 m9 m10 m11 mr mc me mw mh mn mu ms mt md mz mi mk mo mj ml) sz)) 0 0 (va_A (W_X5 cI m0 m1 m2 m3 m4 m5 m6 m7 m8 m9 m10 m11 mr mc me mw mh mn mu ms mt md mz mi mk mo mj ml) sz) := by
  refine Met.ofW (cc := cX5_now) (maxL := 1) (ret := (some .int)) (by decide) rfl ?_
  intro p e s m args below meth c s₁ B hml hv
  obtain ⟨rfl, hsz, hP, hK, hD0, hN⟩ := hv
  have hx := B.exec
  have hb := B.bytes
  have hr := B.returns
  have hts := atoms_spec (ws := wsX5_now) B.pre
  have hown : s.vm.findClass RX5 = some m.cls := findClass_of_methodNamed B.named
  have hlocks := B.notSynchronized
  subst hsz
  have hD := hD0.self (sz := s.heap.size)
  generalize hAe : va_A (W_X5 cI m0 m1 m2 m3 m4 m5 m6 m7 m8 m9 m10 m11 mr mc me mw mh mn mu ms mt md mz mi mk mo mj ml) s.heap.size = A at hD ⊢
  have hA : ∀ q : Nat, s.heap.size ≤ q → A q := fun q h => by rw [← hAe]; exact Or.inr h
  have hS : va_S A s.heap s.heap [] := va_S.rf
  have hl := lv_entry ([.ref m0]) (n := 1) (Nat.le_of_ble_eq_true rfl)
  rw [lg_entry_eq]
  generalize (lg_sl ([.ref m0]) ++ List.replicate (1 - (lg_sl ([.ref m0])).length) Slot.unset).toArray = ls at hl ⊢
  have hl : lv_has ls 1 [(0, .ref m0)] := hl
  have he := f_X5_now.eq_1 mw
  refine lv_aload_n hx hb dX5_now_0 rfl (lv_at hl 0 rfl) ?_
  refine lv_iconst (v := 0) hx hb dX5_now_1 (by decide) ?_
  refine va_put (D := D) (ci := 5) (v := .int 0) (ty := .int) (C := RX5) (T := TX5) (N := 16) hx hb hts (by decide +kernel) tyX5 tyX5_ok nmX5 hown hK hP hD hS 0 rfl rfl 15 (by decide) (hts (.fieldLink RX5 43 "AlarmgroveModel" "thrown" "I") (by decide +kernel)) (fun _ h9 => h9) rfl (by decide +kernel) rfl rfl (Nat.le_of_ble_eq_true rfl) dX5_now_2 (fun H locs hP hD hS => ?_)
  have hP : va_P D vwCl (W_X5 cI m0 m1 m2 m3 m4 m5 m6 m7 m8 m9 m10 m11 mr mc me mw 0 mn mu ms mt md mz mi mk mo mj ml) H := hP
  have hD : va_D A (W_X5 cI m0 m1 m2 m3 m4 m5 m6 m7 m8 m9 m10 m11 mr mc me mw 0 mn mu ms mt md mz mi mk mo mj ml) := hD
  refine lv_aload_n hx hb dX5_now_5 rfl (lv_at hl 0 rfl) ?_
  refine va_get (D := D) (ci := 5) (v := .int mw) (C := RX5) (T := TX5) (N := 16) hx hb hts (by decide +kernel) hown hK hP 0 rfl rfl 14 (by decide) (hts (.fieldLink RX5 62 "AlarmgroveModel" "now" "I") (by decide +kernel)) (fun _ h9 => h9) rfl dX5_now_6 ?_
  exact W.iret (v := mw) hx hb hr (fun t ht hW => ⟨⟨mw, 0, rfl, he, by rw [ht]; exact hP, va_K.moved hW.alike hK, hD⟩, hS.F ht⟩) hS.2.2 dX5_now_9
abbrev rm_X5_notes : Room := { frames := 0, cells := 0, slots := 0, locals := 0 }
abbrev Q_X5_notes (D : va_G) (cI : ClassId) (m0 m1 m2 m3 m4 m5 m6 m7 m8 m9 m10 m11 : Nat) (mr : Int32) (mc : Int32) (me : Int32) (mw : Int32) (mh : Int32) (mn : AA) (mu : AA) (ms : AA) (mt : AA) (md : AA) (mz : AA) (mi : AA) (mk : AA) (mo : AA) (mj : AA) (ml : AA) (a1 a2 a3 : Int32) (A : Nat → Prop) : Array Value → State → Outcome → State → Prop := va_Qv (S := Int32 × AA × AA × AA × AA) (fun u => f_X5_notes me mw mk mo mj ml a1 a2 a3 = u) (fun u t => QW D [(cI, .int)] A (W_X5 cI m0 m1 m2 m3 m4 m5 m6 m7 m8 m9 m10 m11 mr mc u.1 mw mh mn mu ms mt md mz mi u.2.1 u.2.2.1 u.2.2.2.1 u.2.2.2.2) t) A
set_option maxHeartbeats 4000000 in
set_option maxRecDepth 100000 in
theorem c_X5_notes (l : Launch)  (D : va_G) (cI : ClassId) (m0 m1 m2 m3 m4 m5 m6 m7 m8 m9 m10 m11 : Nat) (mr : Int32) (mc : Int32) (me : Int32) (mw : Int32) (mh : Int32) (mn : AA) (mu : AA) (ms : AA) (mt : AA) (md : AA) (mz : AA) (mi : AA) (mk : AA) (mo : AA) (mj : AA) (ml : AA) (sz : Nat) (a1 a2 a3 : Int32) (hp : p_X5_notes me) : Met l yX5_notes wsX5_notes rm_X5_notes (va_Pc [.ref m0, .int a1, .int a2, .int a3] (PW D [(cI, .int)] sz (W_X5 cI m0 m1 m2 m3 m4 m5 m6 m7 m8 m9 m10 m11 mr mc me mw mh mn mu ms mt md mz mi mk mo mj ml))) (Q_X5_notes D cI m0 m1 m2 m3 m4 m5 m6 m7 m8 m9 m10 m11 mr mc me mw mh mn mu ms mt md mz mi mk mo mj ml a1 a2 a3 (va_A (W_X5 cI m0 m1 m2 m3 m4 m5 m6 m7 m8 m9 m10 m11 mr mc me mw mh mn mu ms mt md mz mi mk mo mj ml) sz)) 0 0 (va_A (W_X5 cI m0 m1 m2 m3 m4 m5 m6 m7 m8 m9 m10 m11 mr mc me mw mh mn mu ms mt md mz mi mk mo mj ml) sz) := by
  refine Met.ofW (cc := cX5_notes) (maxL := 4) (ret := none) (by decide) rfl ?_
  intro p e s m args below meth c s₁ B hml hv
  obtain ⟨rfl, hsz, hP, hK, hD0, hN⟩ := hv
  have hx := B.exec
  have hb := B.bytes
  have hr := B.returns
  have hts := atoms_spec (ws := wsX5_notes) B.pre
  have hown : s.vm.findClass RX5 = some m.cls := findClass_of_methodNamed B.named
  have hlocks := B.notSynchronized
  subst hsz
  have hD := hD0.self (sz := s.heap.size)
  generalize hAe : va_A (W_X5 cI m0 m1 m2 m3 m4 m5 m6 m7 m8 m9 m10 m11 mr mc me mw mh mn mu ms mt md mz mi mk mo mj ml) s.heap.size = A at hD ⊢
  have hA : ∀ q : Nat, s.heap.size ≤ q → A q := fun q h => by rw [← hAe]; exact Or.inr h
  have hS : va_S A s.heap s.heap [] := va_S.rf
  have hl := lv_entry ([.ref m0, .int a1, .int a2, .int a3]) (n := 4) (Nat.le_of_ble_eq_true rfl)
  rw [lg_entry_eq]
  generalize (lg_sl ([.ref m0, .int a1, .int a2, .int a3]) ++ List.replicate (4 - (lg_sl ([.ref m0, .int a1, .int a2, .int a3])).length) Slot.unset).toArray = ls at hl ⊢
  have hl : lv_has ls 4 [(0, .ref m0), (1, .int a1), (2, .int a2), (3, .int a3)] := hl
  have he := f_X5_notes.eq_1 me mw mk mo mj ml a1 a2 a3
  replace hp := Eq.mp (p_X5_notes.eq_1 ..) hp
  refine lv_aload_n hx hb dX5_notes_0 rfl (lv_at hl 0 rfl) ?_
  refine va_get (D := D) (ci := 5) (v := .ref m8) (C := RX5) (T := TX5) (N := 16) hx hb hts (by decide +kernel) hown hK hP 0 rfl rfl 9 (by decide) (hts (.fieldLink RX5 31 "AlarmgroveModel" "kind" "[I") (by decide +kernel)) (fun _ h9 => h9) rfl dX5_notes_1 ?_
  refine lv_aload_n hx hb dX5_notes_4 rfl (lv_at hl 0 rfl) ?_
  refine va_get (D := D) (ci := 5) (v := .int me) (C := RX5) (T := TX5) (N := 16) hx hb hts (by decide +kernel) hown hK hP 0 rfl rfl 13 (by decide) (hts (.fieldLink RX5 65 "AlarmgroveModel" "events" "I") (by decide +kernel)) (fun _ h9 => h9) rfl dX5_notes_5 ?_
  refine lv_iload_n hx hb dX5_notes_8 rfl (lv_at hl 1 rfl) ?_
  have h1 := hp.1
  replace hp := hp.2
  refine va_iast hx hb hK hP hD hS 8 0 rfl rfl h1 dX5_notes_9 (fun H locs hP hD hS => ?_)
  have hP : va_P D vwCl (W_X5 cI m0 m1 m2 m3 m4 m5 m6 m7 m8 m9 m10 m11 mr mc me mw mh mn mu ms mt md mz mi (upd mk (me).toNatClampNeg a1) mo mj ml) H := hP
  have hD : va_D A (W_X5 cI m0 m1 m2 m3 m4 m5 m6 m7 m8 m9 m10 m11 mr mc me mw mh mn mu ms mt md mz mi (upd mk (me).toNatClampNeg a1) mo mj ml) := hD
  refine lv_aload_n hx hb dX5_notes_10 rfl (lv_at hl 0 rfl) ?_
  refine va_get (D := D) (ci := 5) (v := .ref m9) (C := RX5) (T := TX5) (N := 16) hx hb hts (by decide +kernel) hown hK hP 0 rfl rfl 10 (by decide) (hts (.fieldLink RX5 34 "AlarmgroveModel" "node" "[I") (by decide +kernel)) (fun _ h9 => h9) rfl dX5_notes_11 ?_
  refine lv_aload_n hx hb dX5_notes_14 rfl (lv_at hl 0 rfl) ?_
  refine va_get (D := D) (ci := 5) (v := .int me) (C := RX5) (T := TX5) (N := 16) hx hb hts (by decide +kernel) hown hK hP 0 rfl rfl 13 (by decide) (hts (.fieldLink RX5 65 "AlarmgroveModel" "events" "I") (by decide +kernel)) (fun _ h9 => h9) rfl dX5_notes_15 ?_
  refine lv_iload_n hx hb dX5_notes_18 rfl (lv_at hl 2 rfl) ?_
  have h2 := hp.1
  replace hp := hp.2
  refine va_iast hx hb hK hP hD hS 9 0 rfl rfl h2 dX5_notes_19 (fun H locs hP hD hS => ?_)
  have hP : va_P D vwCl (W_X5 cI m0 m1 m2 m3 m4 m5 m6 m7 m8 m9 m10 m11 mr mc me mw mh mn mu ms mt md mz mi (upd mk (me).toNatClampNeg a1) (upd mo (me).toNatClampNeg a2) mj ml) H := hP
  have hD : va_D A (W_X5 cI m0 m1 m2 m3 m4 m5 m6 m7 m8 m9 m10 m11 mr mc me mw mh mn mu ms mt md mz mi (upd mk (me).toNatClampNeg a1) (upd mo (me).toNatClampNeg a2) mj ml) := hD
  refine lv_aload_n hx hb dX5_notes_20 rfl (lv_at hl 0 rfl) ?_
  refine va_get (D := D) (ci := 5) (v := .ref m10) (C := RX5) (T := TX5) (N := 16) hx hb hts (by decide +kernel) hown hK hP 0 rfl rfl 11 (by decide) (hts (.fieldLink RX5 37 "AlarmgroveModel" "time" "[I") (by decide +kernel)) (fun _ h9 => h9) rfl dX5_notes_21 ?_
  refine lv_aload_n hx hb dX5_notes_24 rfl (lv_at hl 0 rfl) ?_
  refine va_get (D := D) (ci := 5) (v := .int me) (C := RX5) (T := TX5) (N := 16) hx hb hts (by decide +kernel) hown hK hP 0 rfl rfl 13 (by decide) (hts (.fieldLink RX5 65 "AlarmgroveModel" "events" "I") (by decide +kernel)) (fun _ h9 => h9) rfl dX5_notes_25 ?_
  refine lv_aload_n hx hb dX5_notes_28 rfl (lv_at hl 0 rfl) ?_
  refine va_get (D := D) (ci := 5) (v := .int mw) (C := RX5) (T := TX5) (N := 16) hx hb hts (by decide +kernel) hown hK hP 0 rfl rfl 14 (by decide) (hts (.fieldLink RX5 62 "AlarmgroveModel" "now" "I") (by decide +kernel)) (fun _ h9 => h9) rfl dX5_notes_29 ?_
  have h3 := hp.1
  replace hp := hp.2
  refine va_iast hx hb hK hP hD hS 10 0 rfl rfl h3 dX5_notes_32 (fun H locs hP hD hS => ?_)
  have hP : va_P D vwCl (W_X5 cI m0 m1 m2 m3 m4 m5 m6 m7 m8 m9 m10 m11 mr mc me mw mh mn mu ms mt md mz mi (upd mk (me).toNatClampNeg a1) (upd mo (me).toNatClampNeg a2) (upd mj (me).toNatClampNeg mw) ml) H := hP
  have hD : va_D A (W_X5 cI m0 m1 m2 m3 m4 m5 m6 m7 m8 m9 m10 m11 mr mc me mw mh mn mu ms mt md mz mi (upd mk (me).toNatClampNeg a1) (upd mo (me).toNatClampNeg a2) (upd mj (me).toNatClampNeg mw) ml) := hD
  refine lv_aload_n hx hb dX5_notes_33 rfl (lv_at hl 0 rfl) ?_
  refine va_get (D := D) (ci := 5) (v := .ref m11) (C := RX5) (T := TX5) (N := 16) hx hb hts (by decide +kernel) hown hK hP 0 rfl rfl 12 (by decide) (hts (.fieldLink RX5 40 "AlarmgroveModel" "length" "[I") (by decide +kernel)) (fun _ h9 => h9) rfl dX5_notes_34 ?_
  refine lv_aload_n hx hb dX5_notes_37 rfl (lv_at hl 0 rfl) ?_
  refine va_get (D := D) (ci := 5) (v := .int me) (C := RX5) (T := TX5) (N := 16) hx hb hts (by decide +kernel) hown hK hP 0 rfl rfl 13 (by decide) (hts (.fieldLink RX5 65 "AlarmgroveModel" "events" "I") (by decide +kernel)) (fun _ h9 => h9) rfl dX5_notes_38 ?_
  refine lv_iload_n hx hb dX5_notes_41 rfl (lv_at hl 3 rfl) ?_
  have h4 := hp.1
  replace hp := hp.2
  refine va_iast hx hb hK hP hD hS 11 0 rfl rfl h4 dX5_notes_42 (fun H locs hP hD hS => ?_)
  have hP : va_P D vwCl (W_X5 cI m0 m1 m2 m3 m4 m5 m6 m7 m8 m9 m10 m11 mr mc me mw mh mn mu ms mt md mz mi (upd mk (me).toNatClampNeg a1) (upd mo (me).toNatClampNeg a2) (upd mj (me).toNatClampNeg mw) (upd ml (me).toNatClampNeg a3)) H := hP
  have hD : va_D A (W_X5 cI m0 m1 m2 m3 m4 m5 m6 m7 m8 m9 m10 m11 mr mc me mw mh mn mu ms mt md mz mi (upd mk (me).toNatClampNeg a1) (upd mo (me).toNatClampNeg a2) (upd mj (me).toNatClampNeg mw) (upd ml (me).toNatClampNeg a3)) := hD
  refine lv_aload_n hx hb dX5_notes_43 rfl (lv_at hl 0 rfl) ?_
  refine lv_dup hx hb dX5_notes_44 rfl ?_
  refine va_get (D := D) (ci := 5) (v := .int me) (C := RX5) (T := TX5) (N := 16) hx hb hts (by decide +kernel) hown hK hP 0 rfl rfl 13 (by decide) (hts (.fieldLink RX5 65 "AlarmgroveModel" "events" "I") (by decide +kernel)) (fun _ h9 => h9) rfl dX5_notes_45 ?_
  refine lv_iconst (v := 1) hx hb dX5_notes_48 (by decide) ?_
  refine lv_iadd hx hb dX5_notes_49 ?_
  refine va_put (D := D) (ci := 5) (v := .int (me + 1)) (ty := .int) (C := RX5) (T := TX5) (N := 16) hx hb hts (by decide +kernel) tyX5 tyX5_ok nmX5 hown hK hP hD hS 0 rfl rfl 13 (by decide) (hts (.fieldLink RX5 65 "AlarmgroveModel" "events" "I") (by decide +kernel)) (fun _ h9 => h9) rfl (by decide +kernel) rfl rfl (Nat.le_of_ble_eq_true rfl) dX5_notes_50 (fun H locs hP hD hS => ?_)
  have hP : va_P D vwCl (W_X5 cI m0 m1 m2 m3 m4 m5 m6 m7 m8 m9 m10 m11 mr mc (me + 1) mw mh mn mu ms mt md mz mi (upd mk (me).toNatClampNeg a1) (upd mo (me).toNatClampNeg a2) (upd mj (me).toNatClampNeg mw) (upd ml (me).toNatClampNeg a3)) H := hP
  have hD : va_D A (W_X5 cI m0 m1 m2 m3 m4 m5 m6 m7 m8 m9 m10 m11 mr mc (me + 1) mw mh mn mu ms mt md mz mi (upd mk (me).toNatClampNeg a1) (upd mo (me).toNatClampNeg a2) (upd mj (me).toNatClampNeg mw) (upd ml (me).toNatClampNeg a3)) := hD
  exact W.vret hx hb hr (fun t ht hW => ⟨⟨((me + 1), (upd mk (me).toNatClampNeg a1), (upd mo (me).toNatClampNeg a2), (upd mj (me).toNatClampNeg mw), (upd ml (me).toNatClampNeg a3)), rfl, he, by rw [ht]; exact hP, va_K.moved hW.alike hK, hD⟩, hS.F ht⟩) hS.2.2 dX5_notes_53
abbrev rm_X5_kin : Room := { frames := 1, cells := 0, slots := 0, locals := 21 }
abbrev Q_X5_kin (D : va_G) (cI : ClassId) (m0 m1 m2 m3 m4 m5 m6 m7 m8 m9 m10 m11 : Nat) (mr : Int32) (mc : Int32) (me : Int32) (mw : Int32) (mh : Int32) (mn : AA) (mu : AA) (ms : AA) (mt : AA) (md : AA) (mz : AA) (mi : AA) (mk : AA) (mo : AA) (mj : AA) (ml : AA) (a1 : Int32) (A : Nat → Prop) : Array Value → State → Outcome → State → Prop := va_Qi (S := Unit) (fun r u => f_X5_kin mu a1 = r) (fun u t => QW D [(cI, .int)] A (W_X5 cI m0 m1 m2 m3 m4 m5 m6 m7 m8 m9 m10 m11 mr mc me mw mh mn mu ms mt md mz mi mk mo mj ml) t) A
set_option maxHeartbeats 4000000 in
set_option maxRecDepth 100000 in
theorem c_X5_kin (l : Launch)  (D : va_G) (cI : ClassId) (m0 m1 m2 m3 m4 m5 m6 m7 m8 m9 m10 m11 : Nat) (mr : Int32) (mc : Int32) (me : Int32) (mw : Int32) (mh : Int32) (mn : AA) (mu : AA) (ms : AA) (mt : AA) (md : AA) (mz : AA) (mi : AA) (mk : AA) (mo : AA) (mj : AA) (ml : AA) (sz : Nat) (a1 : Int32) (hp : p_X5_kin mu a1) : Met l yX5_kin wsX5_kin rm_X5_kin (va_Pc [.ref m0, .int a1] (PW D [(cI, .int)] sz (W_X5 cI m0 m1 m2 m3 m4 m5 m6 m7 m8 m9 m10 m11 mr mc me mw mh mn mu ms mt md mz mi mk mo mj ml))) (Q_X5_kin D cI m0 m1 m2 m3 m4 m5 m6 m7 m8 m9 m10 m11 mr mc me mw mh mn mu ms mt md mz mi mk mo mj ml a1 (va_A (W_X5 cI m0 m1 m2 m3 m4 m5 m6 m7 m8 m9 m10 m11 mr mc me mw mh mn mu ms mt md mz mi mk mo mj ml) sz)) 0 0 (va_A (W_X5 cI m0 m1 m2 m3 m4 m5 m6 m7 m8 m9 m10 m11 mr mc me mw mh mn mu ms mt md mz mi mk mo mj ml) sz) := by
  refine Met.ofW (cc := cX5_kin) (maxL := 4) (ret := (some .int)) (by decide) rfl ?_
  intro p e s m args below meth c s₁ B hml hv
  obtain ⟨rfl, hsz, hP, hK, hD0, hN⟩ := hv
  have hx := B.exec
  have hb := B.bytes
  have hr := B.returns
  have hts := atoms_spec (ws := wsX5_kin) B.pre
  have hown : s.vm.findClass RX5 = some m.cls := findClass_of_methodNamed B.named
  have hlocks := B.notSynchronized
  subst hsz
  have hD := hD0.self (sz := s.heap.size)
  generalize hAe : va_A (W_X5 cI m0 m1 m2 m3 m4 m5 m6 m7 m8 m9 m10 m11 mr mc me mw mh mn mu ms mt md mz mi mk mo mj ml) s.heap.size = A at hD ⊢
  have hA : ∀ q : Nat, s.heap.size ≤ q → A q := fun q h => by rw [← hAe]; exact Or.inr h
  have hS : va_S A s.heap s.heap [] := va_S.rf
  have hl := lv_entry ([.ref m0, .int a1]) (n := 4) (Nat.le_of_ble_eq_true rfl)
  rw [lg_entry_eq]
  generalize (lg_sl ([.ref m0, .int a1]) ++ List.replicate (4 - (lg_sl ([.ref m0, .int a1])).length) Slot.unset).toArray = ls at hl ⊢
  have hl : lv_has ls 4 [(0, .ref m0), (1, .int a1)] := hl
  have he := f_X5_kin.eq_1 mu a1
  replace hp := Eq.mp (p_X5_kin.eq_1 ..) hp
  refine lv_aload_n hx hb dX5_kin_0 rfl (lv_at hl 0 rfl) ?_
  refine va_get (D := D) (ci := 5) (v := .ref m2) (C := RX5) (T := TX5) (N := 16) hx hb hts (by decide +kernel) hown hK hP 0 rfl rfl 1 (by decide) (hts (.fieldLink RX5 13 "AlarmgroveModel" "under" "[I") (by decide +kernel)) (fun _ h9 => h9) rfl dX5_kin_1 ?_
  refine lv_iload_n hx hb dX5_kin_4 rfl (lv_at hl 1 rfl) ?_
  have h1 := hp.1
  replace hp := hp.2
  refine va_iald hx hb hK hP 2 0 rfl rfl h1 dX5_kin_5 ?_
  refine lv_istore_n (lv' := [(2, .int (mu (a1).toNatClampNeg)), (0, .ref m0), (1, .int a1)]) hx hb dX5_kin_6 rfl hl (by decide) rfl (fun ls hl => ?_)
  refine lv_iconst (v := 0) hx hb dX5_kin_7 (by decide) ?_
  refine lv_istore_n (lv' := [(3, .int 0), (2, .int (mu (a1).toNatClampNeg)), (0, .ref m0), (1, .int a1)]) hx hb dX5_kin_8 rfl hl (by decide) rfl (fun ls hl => ?_)
  obtain ⟨⟨r2_v9_2, r2_v9_3⟩, hL2⟩ : ∃ z, z = f_X5_kin_L9 mu a1 15 (mu (a1).toNatClampNeg) (0 : Int32) := ⟨_, rfl⟩
  rw [← hL2] at he
  try dsimp only at he
  have hpL2 := hp.1
  replace hp := hp.2 _ _ hL2.symm
  have kont2 : ∀ (x2_v9_2 : Int32) (x2_v9_3 : Int32), (r2_v9_2, r2_v9_3) = (x2_v9_2, x2_v9_3) → ∀ (H : Heap) (locs : List Loc), va_P D vwCl (W_X5 cI m0 m1 m2 m3 m4 m5 m6 m7 m8 m9 m10 m11 mr mc me mw mh mn mu ms mt md mz mi mk mo mj ml) H → va_D A (W_X5 cI m0 m1 m2 m3 m4 m5 m6 m7 m8 m9 m10 m11 mr mc me mw mh mn mu ms mt md mz mi mk mo mj ml) → va_S A s.heap H locs → ∀ ls : Array Slot, lv_has ls 4 [(2, .int x2_v9_2)] → W p l e (headSpec wsX5_kin rm_X5_kin).room s m ([.ref m0, .int a1] : List Value).toArray below meth c H locs 0 0 (MQ below (Q_X5_kin D cI m0 m1 m2 m3 m4 m5 m6 m7 m8 m9 m10 m11 mr mc me mw mh mn mu ms mt md mz mi mk mo mj ml a1 A) ([.ref m0, .int a1] : List Value).toArray s 0 0 A) (F0 m 44 ls []) := by
    intro x2_v9_2 x2_v9_3 hxe H locs hP hD hS ls hl
    simp only [Prod.mk.injEq] at hxe
    obtain ⟨rfl, rfl⟩ := hxe
    refine lv_iload_n hx hb dX5_kin_44 rfl (lv_at hl 0 rfl) ?_
    exact W.iret (v := r2_v9_2) hx hb hr (fun t ht hW => ⟨⟨r2_v9_2, (), rfl, he, by rw [ht]; exact hP, va_K.moved hW.alike hK, hD⟩, hS.F ht⟩) hS.2.2 dX5_kin_45
  have loop2 : ∀ (n : Nat) (v9_2 : Int32) (v9_3 : Int32), p_X5_kin_L9 mu a1 n v9_2 v9_3 → (r2_v9_2, r2_v9_3) = f_X5_kin_L9 mu a1 n v9_2 v9_3 → ∀ (H : Heap) (locs : List Loc), va_P D vwCl (W_X5 cI m0 m1 m2 m3 m4 m5 m6 m7 m8 m9 m10 m11 mr mc me mw mh mn mu ms mt md mz mi mk mo mj ml) H → va_D A (W_X5 cI m0 m1 m2 m3 m4 m5 m6 m7 m8 m9 m10 m11 mr mc me mw mh mn mu ms mt md mz mi mk mo mj ml) → va_S A s.heap H locs → ∀ ls : Array Slot, lv_has ls 4 [(3, .int v9_3), (2, .int v9_2), (0, .ref m0), (1, .int a1)] → W p l e (headSpec wsX5_kin rm_X5_kin).room s m ([.ref m0, .int a1] : List Value).toArray below meth c H locs 0 0 (MQ below (Q_X5_kin D cI m0 m1 m2 m3 m4 m5 m6 m7 m8 m9 m10 m11 mr mc me mw mh mn mu ms mt md mz mi mk mo mj ml a1 A) ([.ref m0, .int a1] : List Value).toArray s 0 0 A) (F0 m 9 ls []) := by
    intro n
    induction n with
    | zero => exact fun _ _ hp => hp.elim
    | succ n ih =>
      intro v9_2 v9_3 hp he H locs hP hD hS ls hl
      replace hp := Eq.mp (p_X5_kin_L9.eq_2 ..) hp
      replace he := he.trans (f_X5_kin_L9.eq_2 ..)
      refine lv_iload_n hx hb dX5_kin_9 rfl (lv_at hl 0 rfl) ?_
      refine lv_bipush (v := 14) hx hb dX5_kin_10 (by decide) ?_
      refine lv_icmp_ge (tgt := 44) hx hb dX5_kin_12 (by decide) (fun c3 => ?_) (fun c3 => ?_)
      · replace hp := hp.1 c3
        replace he := he.trans (if_pos c3)
        exact kont2 _ _ he _ _ hP hD hS _ (lv_sub hl [1] rfl)
      · replace hp := hp.2 c3
        replace he := he.trans (if_neg c3)
        refine lv_iload_n hx hb dX5_kin_15 rfl (lv_at hl 1 rfl) ?_
        refine lv_aload_n hx hb dX5_kin_16 rfl (lv_at hl 2 rfl) ?_
        refine va_get (D := D) (ci := 5) (v := .ref m2) (C := RX5) (T := TX5) (N := 16) hx hb hts (by decide +kernel) hown hK hP 0 rfl rfl 1 (by decide) (hts (.fieldLink RX5 13 "AlarmgroveModel" "under" "[I") (by decide +kernel)) (fun _ h9 => h9) rfl dX5_kin_17 ?_
        refine lv_iload_n hx hb dX5_kin_20 rfl (lv_at hl 0 rfl) ?_
        have h4 := hp.1
        replace hp := hp.2
        refine va_iald hx hb hK hP 2 0 rfl rfl h4 dX5_kin_21 ?_
        refine lv_iload_n hx hb dX5_kin_22 rfl (lv_at hl 3 rfl) ?_
        refine k_calli (S := Unit) (wc := ([] : va_W)) (wr := (W_X5 cI m0 m1 m2 m3 m4 m5 m6 m7 m8 m9 m10 m11 mr mc me mw mh mn mu ms mt md mz mi mk mo mj ml)) (w1 := fun u => ([] : va_W)) (fun u => (W_X5 cI m0 m1 m2 m3 m4 m5 m6 m7 m8 m9 m10 m11 mr mc me mw mh mn mu ms mt md mz mi mk mo mj ml)) hP hK hD hN hS hA [] [0, 1, 2, 3, 4, 5, 6, 7, 8, 9, 10, 11] rfl rfl (by decide) (by decide) (by decide) [0, 1, 2, 3, 4, 5, 6, 7, 8, 9, 10, 11] (by decide) (fun _ => rfl) (fun hg => va_runS (As := [.int (mu (v9_3).toNatClampNeg), .int a1]) (rest := [.int v9_2]) ⟨hx, hb, hml, hown, hts⟩ (c_X5_has l D cI _ (mu (v9_3).toNatClampNeg) a1) (va_cwS 2 hts gX5_kin_X5_has rfl rfl rfl (by decide +kernel) ⟨Nat.le_of_ble_eq_true rfl, Nat.le_of_ble_eq_true rfl⟩) ⟨PW.blind, fun U hU hW => ⟨rfl, hg U hU hW⟩⟩ rfl rfl hl.1 rfl (lv_room (Nat.le_of_ble_eq_true rfl)) dX5_kin_23 ⟨Nat.le_of_ble_eq_true rfl, Nat.le_of_ble_eq_true rfl⟩) (fun r5 u H locs hw hP hD hS => ?_)
        obtain ⟨hw, hb5⟩ := hw
        subst hw
        obtain ⟨j6, hJ6⟩ : ∃ z : Int32, z = (if (f_X5_has (mu (v9_3).toNatClampNeg) a1) = 0 then (0 : Int32) else (1 <<< (v9_3 &&& 31))) := ⟨_, rfl⟩
        rw [← hJ6] at he
        try dsimp only at he
        have hpJ6 := hp.1
        replace hp := hp.2 _  hJ6.symm
        have kont6 : ∀ (H : Heap) (locs : List Loc), va_P D vwCl (W_X5 cI m0 m1 m2 m3 m4 m5 m6 m7 m8 m9 m10 m11 mr mc me mw mh mn mu ms mt md mz mi mk mo mj ml) H → va_D A (W_X5 cI m0 m1 m2 m3 m4 m5 m6 m7 m8 m9 m10 m11 mr mc me mw mh mn mu ms mt md mz mi mk mo mj ml) → va_S A s.heap H locs → ∀ ls : Array Slot, lv_has ls 4 [(3, .int v9_3), (0, .ref m0), (1, .int a1)] → W p l e (headSpec wsX5_kin rm_X5_kin).room s m ([.ref m0, .int a1] : List Value).toArray below meth c H locs 0 0 (MQ below (Q_X5_kin D cI m0 m1 m2 m3 m4 m5 m6 m7 m8 m9 m10 m11 mr mc me mw mh mn mu ms mt md mz mi mk mo mj ml a1 A) ([.ref m0, .int a1] : List Value).toArray s 0 0 A) (F0 m 36 ls [.int j6, .int v9_2]) := by
          intro H locs hP hD hS ls hl
          refine lv_ior hx hb dX5_kin_36 ?_
          refine lv_istore_n (lv' := [(2, .int (v9_2 ||| j6)), (3, .int v9_3), (0, .ref m0), (1, .int a1)]) hx hb dX5_kin_37 rfl hl (by decide) rfl (fun ls hl => ?_)
          refine lv_iinc (v := (v9_3 + 1)) (lv' := [(3, .int (v9_3 + 1)), (2, .int (v9_2 ||| j6)), (0, .ref m0), (1, .int a1)]) hx hb dX5_kin_38 hl (k := 1) rfl rfl (by decide) rfl (fun ls hl => ?_)
          refine lv_goto (tgt := 9) hx hb dX5_kin_41 (by decide) ?_
          exact ih _ _ hp he _ _ hP hD hS _ (lv_sub hl [0, 1, 2, 3] rfl)
        replace he := hJ6
        replace hp := hpJ6
        refine lv_if_eq (tgt := 35) hx hb dX5_kin_26 (by decide) (fun c7 => ?_) (fun c7 => ?_)
        · replace hp := hp.1 c7
          replace he := he.trans (if_pos c7)
          refine lv_iconst (v := 0) hx hb dX5_kin_35 (by decide) ?_
          subst he
          exact kont6 _ _ hP hD hS _ (lv_sub hl [0, 2, 3] rfl)
        · replace hp := hp.2 c7
          replace he := he.trans (if_neg c7)
          refine lv_iconst (v := 1) hx hb dX5_kin_29 (by decide) ?_
          refine lv_iload_n hx hb dX5_kin_30 rfl (lv_at hl 0 rfl) ?_
          refine lv_ishl hx hb dX5_kin_31 ?_
          refine lv_goto (tgt := 36) hx hb dX5_kin_32 (by decide) ?_
          subst he
          exact kont6 _ _ hP hD hS _ (lv_sub hl [0, 2, 3] rfl)
  exact loop2 15 (mu (a1).toNatClampNeg) (0 : Int32) hpL2 hL2 _ _ hP hD hS _ (lv_sub hl [0, 1, 2, 3] rfl)
