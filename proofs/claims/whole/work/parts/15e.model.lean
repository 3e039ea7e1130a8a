abbrev rm_X5_isTicket : Room := { frames := 0, cells := 0, slots := 0, locals := 0 }
abbrev Q_X5_isTicket (D : va_G) (cI : ClassId) (m0 m1 m2 m3 m4 m5 m6 m7 m8 m9 m10 m11 : Nat) (mr : Int32) (mc : Int32) (me : Int32) (mw : Int32) (mh : Int32) (mn : AA) (mu : AA) (ms : AA) (mt : AA) (md : AA) (mz : AA) (mi : AA) (mk : AA) (mo : AA) (mj : AA) (ml : AA) (a1 : Int32) (A : Nat → Prop) : Array Value → State → Outcome → State → Prop := va_Qi (S := Unit) (fun r u => f_X5_isTicket mc a1 = r ∧ (r = 0 ∨ r = 1)) (fun u t => QW D [(cI, .int)] A (W_X5 cI m0 m1 m2 m3 m4 m5 m6 m7 m8 m9 m10 m11 mr mc me mw mh mn mu ms mt md mz mi mk mo mj ml) t) A
set_option maxHeartbeats 4000000 in
set_option maxRecDepth 100000 in
theorem c_X5_isTicket (l : Launch)  (D : va_G) (cI : ClassId) (m0 m1 m2 m3 m4 m5 m6 m7 m8 m9 m10 m11 : Nat) (mr : Int32) (mc : Int32) (me : Int32) (mw : Int32) (mh : Int32) (mn : AA) (mu : AA) (ms : AA) (mt : AA) (md : AA) (mz : AA) (mi : AA) (mk : AA) (mo : AA) (mj : AA) (ml : AA) (sz : Nat) (a1 : Int32) : Met l yX5_isTicket wsX5_isTicket rm_X5_isTicket (va_Pc [.ref m0, .int a1] (PW D [(cI, .int)] sz (W_X5 cI m0 m1 m2 m3 m4 m5 m6 m7 m8 m9 m10 m11 mr mc me mw mh mn mu ms mt md mz mi mk mo mj ml))) (Q_X5_isTicket D cI m0 m1 m2 m3 m4 m5 m6 m7 m8 m9 m10 m11 mr mc me mw mh mn mu ms mt md mz mi mk mo mj ml a1 (va_A (W_X5 cI m0 m1 m2 m3 m4 m5 m6 m7 m8 m9 m10 m11 mr mc me mw mh mn mu ms mt md mz mi mk mo mj ml) sz)) 0 0 (va_A (W_X5 cI m0 m1 m2 m3 m4 m5 m6 m7 m8 m9 m10 m11 mr mc me mw mh mn mu ms mt md mz mi mk mo mj ml) sz) := by
  refine Met.ofW (cc := cX5_isTicket) (maxL := 2) (ret := (some .boolean)) (by decide) rfl ?_
  intro p e s m args below meth c s₁ B hml hv
  obtain ⟨rfl, hsz, hP, hK, hD0, hN⟩ := hv
  have hx := B.exec
  have hb := B.bytes
  have hr := B.returns
  have hts := atoms_spec (ws := wsX5_isTicket) B.pre
  have hown : s.vm.findClass RX5 = some m.cls := findClass_of_methodNamed B.named
  have hlocks := B.notSynchronized
  subst hsz
  have hD := hD0.self (sz := s.heap.size)
  generalize hAe : va_A (W_X5 cI m0 m1 m2 m3 m4 m5 m6 m7 m8 m9 m10 m11 mr mc me mw mh mn mu ms mt md mz mi mk mo mj ml) s.heap.size = A at hD ⊢
  have hA : ∀ q : Nat, s.heap.size ≤ q → A q := fun q h => by rw [← hAe]; exact Or.inr h
  have hS : va_S A s.heap s.heap [] := va_S.rf
  have hl := lv_entry ([.ref m0, .int a1]) (n := 2) (Nat.le_of_ble_eq_true rfl)
  rw [lg_entry_eq]
  generalize (lg_sl ([.ref m0, .int a1]) ++ List.replicate (2 - (lg_sl ([.ref m0, .int a1])).length) Slot.unset).toArray = ls at hl ⊢
  have hl : lv_has ls 2 [(0, .ref m0), (1, .int a1)] := hl
  have he := f_X5_isTicket.eq_1 mc a1
  refine lv_iload_n hx hb dX5_isTicket_0 rfl (lv_at hl 1 rfl) ?_
  refine lv_iconst (v := 1) hx hb dX5_isTicket_1 (by decide) ?_
  obtain ⟨j1, hJ1⟩ : ∃ z : Int32, z = (if a1 < 1 then (0 : Int32) else (if mc < a1 then (0 : Int32) else (1 : Int32))) := ⟨_, rfl⟩
  rw [← hJ1] at he
  try dsimp only at he
  have kont1 : (j1 = 0 ∨ j1 = 1) → ∀ (H : Heap) (locs : List Loc), va_P D vwCl (W_X5 cI m0 m1 m2 m3 m4 m5 m6 m7 m8 m9 m10 m11 mr mc me mw mh mn mu ms mt md mz mi mk mo mj ml) H → va_D A (W_X5 cI m0 m1 m2 m3 m4 m5 m6 m7 m8 m9 m10 m11 mr mc me mw mh mn mu ms mt md mz mi mk mo mj ml) → va_S A s.heap H locs → ∀ ls : Array Slot, lv_has ls 2 [] → W p l e (headSpec wsX5_isTicket rm_X5_isTicket).room s m ([.ref m0, .int a1] : List Value).toArray below meth c H locs 0 0 (MQ below (Q_X5_isTicket D cI m0 m1 m2 m3 m4 m5 m6 m7 m8 m9 m10 m11 mr mc me mw mh mn mu ms mt md mz mi mk mo mj ml a1 A) ([.ref m0, .int a1] : List Value).toArray s 0 0 A) (F0 m 18 ls [.int j1]) := by
    intro hb1 H locs hP hD hS ls hl
    exact W.zret (ty := .boolean) (v := j1) hx hb hr (by rcases hb1 with h9 | h9 <;> rw [h9] <;> rfl) (fun t ht hW => ⟨⟨j1, (), rfl, ⟨he, hb1⟩, by rw [ht]; exact hP, va_K.moved hW.alike hK, hD⟩, hS.F ht⟩) hS.2.2 dX5_isTicket_18
  replace he := hJ1
  refine lv_icmp_lt (tgt := 17) hx hb dX5_isTicket_2 (by decide) (fun c2 => ?_) (fun c2 => ?_)
  · replace he := he.trans (if_pos c2)
    refine lv_iconst (v := 0) hx hb dX5_isTicket_17 (by decide) ?_
    subst he
    exact kont1 (Or.inl rfl) _ _ hP hD hS _ (lv_sub hl [] rfl)
  · replace he := he.trans (if_neg c2)
    refine lv_iload_n hx hb dX5_isTicket_5 rfl (lv_at hl 1 rfl) ?_
    refine lv_aload_n hx hb dX5_isTicket_6 rfl (lv_at hl 0 rfl) ?_
    refine va_get (D := D) (ci := 5) (v := .int mc) (C := RX5) (T := TX5) (N := 16) hx hb hts (by decide +kernel) hown hK hP 0 rfl rfl 8 (by decide) (hts (.fieldLink RX5 75 "AlarmgroveModel" "tickets" "I") (by decide +kernel)) (fun _ h9 => h9) rfl dX5_isTicket_7 ?_
    refine lv_icmp_gt (tgt := 17) hx hb dX5_isTicket_10 (by decide) (fun c3 => ?_) (fun c3 => ?_)
    · replace he := he.trans (if_pos c3)
      refine lv_iconst (v := 0) hx hb dX5_isTicket_17 (by decide) ?_
      subst he
      exact kont1 (Or.inl rfl) _ _ hP hD hS _ (lv_sub hl [] rfl)
    · replace he := he.trans (if_neg c3)
      refine lv_iconst (v := 1) hx hb dX5_isTicket_13 (by decide) ?_
      refine lv_goto (tgt := 18) hx hb dX5_isTicket_14 (by decide) ?_
      subst he
      exact kont1 (Or.inr rfl) _ _ hP hD hS _ (lv_sub hl [] rfl)
abbrev rm_X5_ticketState : Room := { frames := 1, cells := 0, slots := 0, locals := 21 }
abbrev Q_X5_ticketState (D : va_G) (cI : ClassId) (m0 m1 m2 m3 m4 m5 m6 m7 m8 m9 m10 m11 : Nat) (mr : Int32) (mc : Int32) (me : Int32) (mw : Int32) (mh : Int32) (mn : AA) (mu : AA) (ms : AA) (mt : AA) (md : AA) (mz : AA) (mi : AA) (mk : AA) (mo : AA) (mj : AA) (ml : AA) (a1 : Int32) (A : Nat → Prop) : Array Value → State → Outcome → State → Prop := va_Qi (S := Int32) (fun r u => f_X5_ticketState mc mz a1 = (r, u)) (fun u t => QW D [(cI, .int)] A (W_X5 cI m0 m1 m2 m3 m4 m5 m6 m7 m8 m9 m10 m11 mr mc me mw u mn mu ms mt md mz mi mk mo mj ml) t) A
set_option maxHeartbeats 4000000 in
set_option maxRecDepth 100000 in
theorem c_X5_ticketState (l : Launch)  (D : va_G) (cI : ClassId) (m0 m1 m2 m3 m4 m5 m6 m7 m8 m9 m10 m11 : Nat) (mr : Int32) (mc : Int32) (me : Int32) (mw : Int32) (mh : Int32) (mn : AA) (mu : AA) (ms : AA) (mt : AA) (md : AA) (mz : AA) (mi : AA) (mk : AA) (mo : AA) (mj : AA) (ml : AA) (sz : Nat) (a1 : Int32) (hp : p_X5_ticketState mc mz a1) : Met l yX5_ticketState wsX5_ticketState rm_X5_ticketState (va_Pc [.ref m0, .int a1] (PW D [(cI, .int)] sz (W_X5 cI m0 m1 m2 m3 m4 m5 m6 m7 m8 m9 m10 m11 mr mc me mw mh mn mu ms mt md mz mi mk mo mj ml))) (Q_X5_ticketState D cI m0 m1 m2 m3 m4 m5 m6 m7 m8 m9 m10 m11 mr mc me mw mh mn mu ms mt md mz mi mk mo mj ml a1 (va_A (W_X5 cI m0 m1 m2 m3 m4 m5 m6 m7 m8 m9 m10 m11 mr mc me mw mh mn mu ms mt md mz mi mk mo mj ml) sz)) 0 0 (va_A (W_X5 cI m0 m1 m2 m3 m4 m5 m6 m7 m8 m9 m10 m11 mr mc me mw mh mn mu ms mt md mz mi mk mo mj ml) sz) := by
  refine Met.ofW (cc := cX5_ticketState) (maxL := 2) (ret := (some .int)) (by decide) rfl ?_
  intro p e s m args below meth c s₁ B hml hv
  obtain ⟨rfl, hsz, hP, hK, hD0, hN⟩ := hv
  have hx := B.exec
  have hb := B.bytes
  have hr := B.returns
  have hts := atoms_spec (ws := wsX5_ticketState) B.pre
  have hown : s.vm.findClass RX5 = some m.cls := findClass_of_methodNamed B.named
  have hlocks := B.notSynchronized
  subst hsz
  have hD := hD0.self (sz := s.heap.size)
  generalize hAe : va_A (W_X5 cI m0 m1 m2 m3 m4 m5 m6 m7 m8 m9 m10 m11 mr mc me mw mh mn mu ms mt md mz mi mk mo mj ml) s.heap.size = A at hD ⊢
  have hA : ∀ q : Nat, s.heap.size ≤ q → A q := fun q h => by rw [← hAe]; exact Or.inr h
  have hS : va_S A s.heap s.heap [] := va_S.rf
  have hl := lv_entry ([.ref m0, .int a1]) (n := 2) (Nat.le_of_ble_eq_true rfl)
  rw [lg_entry_eq]
  generalize (lg_sl ([.ref m0, .int a1]) ++ List.replicate (2 - (lg_sl ([.ref m0, .int a1])).length) Slot.unset).toArray = ls at hl ⊢
  have hl : lv_has ls 2 [(0, .ref m0), (1, .int a1)] := hl
  have he := f_X5_ticketState.eq_1 mc mz a1
  replace hp := Eq.mp (p_X5_ticketState.eq_1 ..) hp
  refine lv_aload_n hx hb dX5_ticketState_0 rfl (lv_at hl 0 rfl) ?_
  refine lv_iconst (v := 0) hx hb dX5_ticketState_1 (by decide) ?_
  refine va_put (D := D) (ci := 5) (v := .int 0) (ty := .int) (C := RX5) (T := TX5) (N := 16) hx hb hts (by decide +kernel) tyX5 tyX5_ok nmX5 hown hK hP hD hS 0 rfl rfl 15 (by decide) (hts (.fieldLink RX5 43 "AlarmgroveModel" "thrown" "I") (by decide +kernel)) (fun _ h9 => h9) rfl (by decide +kernel) rfl rfl (Nat.le_of_ble_eq_true rfl) dX5_ticketState_2 (fun H locs hP hD hS => ?_)
  have hP : va_P D vwCl (W_X5 cI m0 m1 m2 m3 m4 m5 m6 m7 m8 m9 m10 m11 mr mc me mw 0 mn mu ms mt md mz mi mk mo mj ml) H := hP
  have hD : va_D A (W_X5 cI m0 m1 m2 m3 m4 m5 m6 m7 m8 m9 m10 m11 mr mc me mw 0 mn mu ms mt md mz mi mk mo mj ml) := hD
  refine lv_aload_n hx hb dX5_ticketState_5 rfl (lv_at hl 0 rfl) ?_
  refine lv_iload_n hx hb dX5_ticketState_6 rfl (lv_at hl 1 rfl) ?_
  refine k_calli (S := Unit) (wc := (W_X5 cI m0 m1 m2 m3 m4 m5 m6 m7 m8 m9 m10 m11 mr mc me mw 0 mn mu ms mt md mz mi mk mo mj ml)) (wr := ([] : va_W)) (w1 := fun u => (W_X5 cI m0 m1 m2 m3 m4 m5 m6 m7 m8 m9 m10 m11 mr mc me mw 0 mn mu ms mt md mz mi mk mo mj ml)) (fun u => (W_X5 cI m0 m1 m2 m3 m4 m5 m6 m7 m8 m9 m10 m11 mr mc me mw 0 mn mu ms mt md mz mi mk mo mj ml)) hP hK hD hN hS hA [0, 1, 2, 3, 4, 5, 6, 7, 8, 9, 10, 11] [] rfl rfl (by decide) (by decide) (by decide) [0, 1, 2, 3, 4, 5, 6, 7, 8, 9, 10, 11] (by decide) (fun _ => rfl) (fun hg => va_runV (As := [.int a1]) (rest := []) ⟨hx, hb, hml, hown, hts⟩ (c_X5_isTicket l D cI m0 m1 m2 m3 m4 m5 m6 m7 m8 m9 m10 m11 mr mc me mw (0 : Int32) mn mu ms mt md mz mi mk mo mj ml _ a1) (cwV 1 hts gX5_ticketState_X5_isTicket rfl rfl rfl (by decide +kernel) ⟨Nat.le_of_ble_eq_true rfl, Nat.le_of_ble_eq_true rfl⟩) ⟨PW.blind, va_recv hK hP (ci := 5) (q0 := 0) rfl rfl, fun U hU hW => ⟨rfl, hg U hU hW⟩⟩ rfl rfl hl.1 rfl (lv_room (Nat.le_of_ble_eq_true rfl)) dX5_ticketState_7 ⟨Nat.le_of_ble_eq_true rfl, Nat.le_of_ble_eq_true rfl⟩) (fun r1 u H locs hw hP hD hS => ?_)
  obtain ⟨hw, hb1⟩ := hw
  subst hw
  obtain ⟨j2, hJ2⟩ : ∃ z : Int32, z = (if (f_X5_isTicket mc a1) = 0 then (0 : Int32) else (mz (a1).toNatClampNeg)) := ⟨_, rfl⟩
  rw [← hJ2] at he
  try dsimp only at he
  have hpJ2 := hp.1
  replace hp := hp.2 _  hJ2.symm
  have kont2 : ∀ (H : Heap) (locs : List Loc), va_P D vwCl (W_X5 cI m0 m1 m2 m3 m4 m5 m6 m7 m8 m9 m10 m11 mr mc me mw 0 mn mu ms mt md mz mi mk mo mj ml) H → va_D A (W_X5 cI m0 m1 m2 m3 m4 m5 m6 m7 m8 m9 m10 m11 mr mc me mw 0 mn mu ms mt md mz mi mk mo mj ml) → va_S A s.heap H locs → ∀ ls : Array Slot, lv_has ls 2 [] → W p l e (headSpec wsX5_ticketState rm_X5_ticketState).room s m ([.ref m0, .int a1] : List Value).toArray below meth c H locs 0 0 (MQ below (Q_X5_ticketState D cI m0 m1 m2 m3 m4 m5 m6 m7 m8 m9 m10 m11 mr mc me mw mh mn mu ms mt md mz mi mk mo mj ml a1 A) ([.ref m0, .int a1] : List Value).toArray s 0 0 A) (F0 m 23 ls [.int j2]) := by
    intro H locs hP hD hS ls hl
    exact W.iret (v := j2) hx hb hr (fun t ht hW => ⟨⟨j2, 0, rfl, he, by rw [ht]; exact hP, va_K.moved hW.alike hK, hD⟩, hS.F ht⟩) hS.2.2 dX5_ticketState_23
  replace he := hJ2
  replace hp := hpJ2
  refine lv_if_eq (tgt := 22) hx hb dX5_ticketState_10 (by decide) (fun c3 => ?_) (fun c3 => ?_)
  · replace hp := hp.1 c3
    replace he := he.trans (if_pos c3)
    refine lv_iconst (v := 0) hx hb dX5_ticketState_22 (by decide) ?_
    subst he
    exact kont2 _ _ hP hD hS _ (lv_sub hl [] rfl)
  · replace hp := hp.2 c3
    replace he := he.trans (if_neg c3)
    refine lv_aload_n hx hb dX5_ticketState_13 rfl (lv_at hl 0 rfl) ?_
    refine va_get (D := D) (ci := 5) (v := .ref m6) (C := RX5) (T := TX5) (N := 16) hx hb hts (by decide +kernel) hown hK hP 0 rfl rfl 6 (by decide) (hts (.fieldLink RX5 25 "AlarmgroveModel" "states" "[I") (by decide +kernel)) (fun _ h9 => h9) rfl dX5_ticketState_14 ?_
    refine lv_iload_n hx hb dX5_ticketState_17 rfl (lv_at hl 1 rfl) ?_
    have h4 := hp.1
    replace hp := hp.2
    refine va_iald hx hb hK hP 6 0 rfl rfl h4 dX5_ticketState_18 ?_
    refine lv_goto (tgt := 23) hx hb dX5_ticketState_19 (by decide) ?_
    subst he
    exact kont2 _ _ hP hD hS _ (lv_sub hl [] rfl)
abbrev rm_X5_ticketSize : Room := { frames := 1, cells := 0, slots := 0, locals := 22 }
abbrev Q_X5_ticketSize (D : va_G) (cI : ClassId) (m0 m1 m2 m3 m4 m5 m6 m7 m8 m9 m10 m11 : Nat) (mr : Int32) (mc : Int32) (me : Int32) (mw : Int32) (mh : Int32) (mn : AA) (mu : AA) (ms : AA) (mt : AA) (md : AA) (mz : AA) (mi : AA) (mk : AA) (mo : AA) (mj : AA) (ml : AA) (a1 : Int32) (A : Nat → Prop) : Array Value → State → Outcome → State → Prop := va_Qi (S := Int32) (fun r u => f_X5_ticketSize mc md a1 = (r, u)) (fun u t => QW D [(cI, .int)] A (W_X5 cI m0 m1 m2 m3 m4 m5 m6 m7 m8 m9 m10 m11 mr mc me mw u mn mu ms mt md mz mi mk mo mj ml) t) A
set_option maxHeartbeats 4000000 in
set_option maxRecDepth 100000 in
theorem c_X5_ticketSize (l : Launch)  (D : va_G) (cI : ClassId) (m0 m1 m2 m3 m4 m5 m6 m7 m8 m9 m10 m11 : Nat) (mr : Int32) (mc : Int32) (me : Int32) (mw : Int32) (mh : Int32) (mn : AA) (mu : AA) (ms : AA) (mt : AA) (md : AA) (mz : AA) (mi : AA) (mk : AA) (mo : AA) (mj : AA) (ml : AA) (sz : Nat) (a1 : Int32) (hp : p_X5_ticketSize mc md a1) : Met l yX5_ticketSize wsX5_ticketSize rm_X5_ticketSize (va_Pc [.ref m0, .int a1] (PW D [(cI, .int)] sz (W_X5 cI m0 m1 m2 m3 m4 m5 m6 m7 m8 m9 m10 m11 mr mc me mw mh mn mu ms mt md mz mi mk mo mj ml))) (Q_X5_ticketSize D cI m0 m1 m2 m3 m4 m5 m6 m7 m8 m9 m10 m11 mr mc me mw mh mn mu ms mt md mz mi mk mo mj ml a1 (va_A (W_X5 cI m0 m1 m2 m3 m4 m5 m6 m7 m8 m9 m10 m11 mr mc me mw mh mn mu ms mt md mz mi mk mo mj ml) sz)) 0 0 (va_A (W_X5 cI m0 m1 m2 m3 m4 m5 m6 m7 m8 m9 m10 m11 mr mc me mw mh mn mu ms mt md mz mi mk mo mj ml) sz) := by
  refine Met.ofW (cc := cX5_ticketSize) (maxL := 2) (ret := (some .int)) (by decide) rfl ?_
  intro p e s m args below meth c s₁ B hml hv
  obtain ⟨rfl, hsz, hP, hK, hD0, hN⟩ := hv
  have hx := B.exec
  have hb := B.bytes
  have hr := B.returns
  have hts := atoms_spec (ws := wsX5_ticketSize) B.pre
  have hown : s.vm.findClass RX5 = some m.cls := findClass_of_methodNamed B.named
  have hlocks := B.notSynchronized
  subst hsz
  have hD := hD0.self (sz := s.heap.size)
  generalize hAe : va_A (W_X5 cI m0 m1 m2 m3 m4 m5 m6 m7 m8 m9 m10 m11 mr mc me mw mh mn mu ms mt md mz mi mk mo mj ml) s.heap.size = A at hD ⊢
  have hA : ∀ q : Nat, s.heap.size ≤ q → A q := fun q h => by rw [← hAe]; exact Or.inr h
  have hS : va_S A s.heap s.heap [] := va_S.rf
  have hl := lv_entry ([.ref m0, .int a1]) (n := 2) (Nat.le_of_ble_eq_true rfl)
  rw [lg_entry_eq]
  generalize (lg_sl ([.ref m0, .int a1]) ++ List.replicate (2 - (lg_sl ([.ref m0, .int a1])).length) Slot.unset).toArray = ls at hl ⊢
  have hl : lv_has ls 2 [(0, .ref m0), (1, .int a1)] := hl
  have he := f_X5_ticketSize.eq_1 mc md a1
  replace hp := Eq.mp (p_X5_ticketSize.eq_1 ..) hp
  refine lv_aload_n hx hb dX5_ticketSize_0 rfl (lv_at hl 0 rfl) ?_
  refine lv_iconst (v := 0) hx hb dX5_ticketSize_1 (by decide) ?_
  refine va_put (D := D) (ci := 5) (v := .int 0) (ty := .int) (C := RX5) (T := TX5) (N := 16) hx hb hts (by decide +kernel) tyX5 tyX5_ok nmX5 hown hK hP hD hS 0 rfl rfl 15 (by decide) (hts (.fieldLink RX5 43 "AlarmgroveModel" "thrown" "I") (by decide +kernel)) (fun _ h9 => h9) rfl (by decide +kernel) rfl rfl (Nat.le_of_ble_eq_true rfl) dX5_ticketSize_2 (fun H locs hP hD hS => ?_)
  have hP : va_P D vwCl (W_X5 cI m0 m1 m2 m3 m4 m5 m6 m7 m8 m9 m10 m11 mr mc me mw 0 mn mu ms mt md mz mi mk mo mj ml) H := hP
  have hD : va_D A (W_X5 cI m0 m1 m2 m3 m4 m5 m6 m7 m8 m9 m10 m11 mr mc me mw 0 mn mu ms mt md mz mi mk mo mj ml) := hD
  refine lv_aload_n hx hb dX5_ticketSize_5 rfl (lv_at hl 0 rfl) ?_
  refine lv_iload_n hx hb dX5_ticketSize_6 rfl (lv_at hl 1 rfl) ?_
  refine k_calli (S := Unit) (wc := (W_X5 cI m0 m1 m2 m3 m4 m5 m6 m7 m8 m9 m10 m11 mr mc me mw 0 mn mu ms mt md mz mi mk mo mj ml)) (wr := ([] : va_W)) (w1 := fun u => (W_X5 cI m0 m1 m2 m3 m4 m5 m6 m7 m8 m9 m10 m11 mr mc me mw 0 mn mu ms mt md mz mi mk mo mj ml)) (fun u => (W_X5 cI m0 m1 m2 m3 m4 m5 m6 m7 m8 m9 m10 m11 mr mc me mw 0 mn mu ms mt md mz mi mk mo mj ml)) hP hK hD hN hS hA [0, 1, 2, 3, 4, 5, 6, 7, 8, 9, 10, 11] [] rfl rfl (by decide) (by decide) (by decide) [0, 1, 2, 3, 4, 5, 6, 7, 8, 9, 10, 11] (by decide) (fun _ => rfl) (fun hg => va_runV (As := [.int a1]) (rest := []) ⟨hx, hb, hml, hown, hts⟩ (c_X5_isTicket l D cI m0 m1 m2 m3 m4 m5 m6 m7 m8 m9 m10 m11 mr mc me mw (0 : Int32) mn mu ms mt md mz mi mk mo mj ml _ a1) (cwV 1 hts gX5_ticketSize_X5_isTicket rfl rfl rfl (by decide +kernel) ⟨Nat.le_of_ble_eq_true rfl, Nat.le_of_ble_eq_true rfl⟩) ⟨PW.blind, va_recv hK hP (ci := 5) (q0 := 0) rfl rfl, fun U hU hW => ⟨rfl, hg U hU hW⟩⟩ rfl rfl hl.1 rfl (lv_room (Nat.le_of_ble_eq_true rfl)) dX5_ticketSize_7 ⟨Nat.le_of_ble_eq_true rfl, Nat.le_of_ble_eq_true rfl⟩) (fun r1 u H locs hw hP hD hS => ?_)
  obtain ⟨hw, hb1⟩ := hw
  subst hw
  obtain ⟨j2, hJ2⟩ : ∃ z : Int32, z = (if (f_X5_isTicket mc a1) = 0 then (0 : Int32) else (f_X5_count (md (a1).toNatClampNeg))) := ⟨_, rfl⟩
  rw [← hJ2] at he
  try dsimp only at he
  have hpJ2 := hp.1
  replace hp := hp.2 _  hJ2.symm
  have kont2 : ∀ (H : Heap) (locs : List Loc), va_P D vwCl (W_X5 cI m0 m1 m2 m3 m4 m5 m6 m7 m8 m9 m10 m11 mr mc me mw 0 mn mu ms mt md mz mi mk mo mj ml) H → va_D A (W_X5 cI m0 m1 m2 m3 m4 m5 m6 m7 m8 m9 m10 m11 mr mc me mw 0 mn mu ms mt md mz mi mk mo mj ml) → va_S A s.heap H locs → ∀ ls : Array Slot, lv_has ls 2 [] → W p l e (headSpec wsX5_ticketSize rm_X5_ticketSize).room s m ([.ref m0, .int a1] : List Value).toArray below meth c H locs 0 0 (MQ below (Q_X5_ticketSize D cI m0 m1 m2 m3 m4 m5 m6 m7 m8 m9 m10 m11 mr mc me mw mh mn mu ms mt md mz mi mk mo mj ml a1 A) ([.ref m0, .int a1] : List Value).toArray s 0 0 A) (F0 m 26 ls [.int j2]) := by
    intro H locs hP hD hS ls hl
    exact W.iret (v := j2) hx hb hr (fun t ht hW => ⟨⟨j2, 0, rfl, he, by rw [ht]; exact hP, va_K.moved hW.alike hK, hD⟩, hS.F ht⟩) hS.2.2 dX5_ticketSize_26
  replace he := hJ2
  replace hp := hpJ2
  refine lv_if_eq (tgt := 25) hx hb dX5_ticketSize_10 (by decide) (fun c3 => ?_) (fun c3 => ?_)
  · replace hp := hp.1 c3
    replace he := he.trans (if_pos c3)
    refine lv_iconst (v := 0) hx hb dX5_ticketSize_25 (by decide) ?_
    subst he
    exact kont2 _ _ hP hD hS _ (lv_sub hl [] rfl)
  · replace hp := hp.2 c3
    replace he := he.trans (if_neg c3)
    refine lv_aload_n hx hb dX5_ticketSize_13 rfl (lv_at hl 0 rfl) ?_
    refine va_get (D := D) (ci := 5) (v := .ref m5) (C := RX5) (T := TX5) (N := 16) hx hb hts (by decide +kernel) hown hK hP 0 rfl rfl 5 (by decide) (hts (.fieldLink RX5 22 "AlarmgroveModel" "nodes" "[I") (by decide +kernel)) (fun _ h9 => h9) rfl dX5_ticketSize_14 ?_
    refine lv_iload_n hx hb dX5_ticketSize_17 rfl (lv_at hl 1 rfl) ?_
    have h4 := hp.1
    replace hp := hp.2
    refine va_iald hx hb hK hP 5 0 rfl rfl h4 dX5_ticketSize_18 ?_
    have hq5 := hp.1
    replace hp := hp.2
    refine k_calli (S := Unit) (wc := ([] : va_W)) (wr := (W_X5 cI m0 m1 m2 m3 m4 m5 m6 m7 m8 m9 m10 m11 mr mc me mw 0 mn mu ms mt md mz mi mk mo mj ml)) (w1 := fun u => ([] : va_W)) (fun u => (W_X5 cI m0 m1 m2 m3 m4 m5 m6 m7 m8 m9 m10 m11 mr mc me mw 0 mn mu ms mt md mz mi mk mo mj ml)) hP hK hD hN hS hA [] [0, 1, 2, 3, 4, 5, 6, 7, 8, 9, 10, 11] rfl rfl (by decide) (by decide) (by decide) [0, 1, 2, 3, 4, 5, 6, 7, 8, 9, 10, 11] (by decide) (fun _ => rfl) (fun hg => va_runS (As := [.int (md (a1).toNatClampNeg)]) (rest := []) ⟨hx, hb, hml, hown, hts⟩ (c_X5_count l D cI _ (md (a1).toNatClampNeg) hq5) (va_cwS 1 hts gX5_ticketSize_X5_count rfl rfl rfl (by decide +kernel) ⟨Nat.le_of_ble_eq_true rfl, Nat.le_of_ble_eq_true rfl⟩) ⟨PW.blind, fun U hU hW => ⟨rfl, hg U hU hW⟩⟩ rfl rfl hl.1 rfl (lv_room (Nat.le_of_ble_eq_true rfl)) dX5_ticketSize_19 ⟨Nat.le_of_ble_eq_true rfl, Nat.le_of_ble_eq_true rfl⟩) (fun r5 u H locs hw hP hD hS => ?_)
    subst hw
    refine lv_goto (tgt := 26) hx hb dX5_ticketSize_22 (by decide) ?_
    subst he
    exact kont2 _ _ hP hD hS _ (lv_sub hl [] rfl)
abbrev rm_X5_mergedInto : Room := { frames := 1, cells := 0, slots := 0, locals := 21 }
abbrev Q_X5_mergedInto (D : va_G) (cI : ClassId) (m0 m1 m2 m3 m4 m5 m6 m7 m8 m9 m10 m11 : Nat) (mr : Int32) (mc : Int32) (me : Int32) (mw : Int32) (mh : Int32) (mn : AA) (mu : AA) (ms : AA) (mt : AA) (md : AA) (mz : AA) (mi : AA) (mk : AA) (mo : AA) (mj : AA) (ml : AA) (a1 : Int32) (A : Nat → Prop) : Array Value → State → Outcome → State → Prop := va_Qi (S := Int32) (fun r u => f_X5_mergedInto mc mz mi a1 = (r, u)) (fun u t => QW D [(cI, .int)] A (W_X5 cI m0 m1 m2 m3 m4 m5 m6 m7 m8 m9 m10 m11 mr mc me mw u mn mu ms mt md mz mi mk mo mj ml) t) A
set_option maxHeartbeats 4000000 in
set_option maxRecDepth 100000 in
theorem c_X5_mergedInto (l : Launch)  (D : va_G) (cI : ClassId) (m0 m1 m2 m3 m4 m5 m6 m7 m8 m9 m10 m11 : Nat) (mr : Int32) (mc : Int32) (me : Int32) (mw : Int32) (mh : Int32) (mn : AA) (mu : AA) (ms : AA) (mt : AA) (md : AA) (mz : AA) (mi : AA) (mk : AA) (mo : AA) (mj : AA) (ml : AA) (sz : Nat) (a1 : Int32) (hp : p_X5_mergedInto mc mz mi a1) : Met l yX5_mergedInto wsX5_mergedInto rm_X5_mergedInto (va_Pc [.ref m0, .int a1] (PW D [(cI, .int)] sz (W_X5 cI m0 m1 m2 m3 m4 m5 m6 m7 m8 m9 m10 m11 mr mc me mw mh mn mu ms mt md mz mi mk mo mj ml))) (Q_X5_mergedInto D cI m0 m1 m2 m3 m4 m5 m6 m7 m8 m9 m10 m11 mr mc me mw mh mn mu ms mt md mz mi mk mo mj ml a1 (va_A (W_X5 cI m0 m1 m2 m3 m4 m5 m6 m7 m8 m9 m10 m11 mr mc me mw mh mn mu ms mt md mz mi mk mo mj ml) sz)) 0 0 (va_A (W_X5 cI m0 m1 m2 m3 m4 m5 m6 m7 m8 m9 m10 m11 mr mc me mw mh mn mu ms mt md mz mi mk mo mj ml) sz) := by
  refine Met.ofW (cc := cX5_mergedInto) (maxL := 2) (ret := (some .int)) (by decide) rfl ?_
  intro p e s m args below meth c s₁ B hml hv
  obtain ⟨rfl, hsz, hP, hK, hD0, hN⟩ := hv
  have hx := B.exec
  have hb := B.bytes
  have hr := B.returns
  have hts := atoms_spec (ws := wsX5_mergedInto) B.pre
  have hown : s.vm.findClass RX5 = some m.cls := findClass_of_methodNamed B.named
  have hlocks := B.notSynchronized
  subst hsz
  have hD := hD0.self (sz := s.heap.size)
  generalize hAe : va_A (W_X5 cI m0 m1 m2 m3 m4 m5 m6 m7 m8 m9 m10 m11 mr mc me mw mh mn mu ms mt md mz mi mk mo mj ml) s.heap.size = A at hD ⊢
  have hA : ∀ q : Nat, s.heap.size ≤ q → A q := fun q h => by rw [← hAe]; exact Or.inr h
  have hS : va_S A s.heap s.heap [] := va_S.rf
  have hl := lv_entry ([.ref m0, .int a1]) (n := 2) (Nat.le_of_ble_eq_true rfl)
  rw [lg_entry_eq]
  generalize (lg_sl ([.ref m0, .int a1]) ++ List.replicate (2 - (lg_sl ([.ref m0, .int a1])).length) Slot.unset).toArray = ls at hl ⊢
  have hl : lv_has ls 2 [(0, .ref m0), (1, .int a1)] := hl
  have he := f_X5_mergedInto.eq_1 mc mz mi a1
  replace hp := Eq.mp (p_X5_mergedInto.eq_1 ..) hp
  refine lv_aload_n hx hb dX5_mergedInto_0 rfl (lv_at hl 0 rfl) ?_
  refine lv_iconst (v := 0) hx hb dX5_mergedInto_1 (by decide) ?_
  refine va_put (D := D) (ci := 5) (v := .int 0) (ty := .int) (C := RX5) (T := TX5) (N := 16) hx hb hts (by decide +kernel) tyX5 tyX5_ok nmX5 hown hK hP hD hS 0 rfl rfl 15 (by decide) (hts (.fieldLink RX5 43 "AlarmgroveModel" "thrown" "I") (by decide +kernel)) (fun _ h9 => h9) rfl (by decide +kernel) rfl rfl (Nat.le_of_ble_eq_true rfl) dX5_mergedInto_2 (fun H locs hP hD hS => ?_)
  have hP : va_P D vwCl (W_X5 cI m0 m1 m2 m3 m4 m5 m6 m7 m8 m9 m10 m11 mr mc me mw 0 mn mu ms mt md mz mi mk mo mj ml) H := hP
  have hD : va_D A (W_X5 cI m0 m1 m2 m3 m4 m5 m6 m7 m8 m9 m10 m11 mr mc me mw 0 mn mu ms mt md mz mi mk mo mj ml) := hD
  refine lv_aload_n hx hb dX5_mergedInto_5 rfl (lv_at hl 0 rfl) ?_
  refine lv_iload_n hx hb dX5_mergedInto_6 rfl (lv_at hl 1 rfl) ?_
  refine k_calli (S := Unit) (wc := (W_X5 cI m0 m1 m2 m3 m4 m5 m6 m7 m8 m9 m10 m11 mr mc me mw 0 mn mu ms mt md mz mi mk mo mj ml)) (wr := ([] : va_W)) (w1 := fun u => (W_X5 cI m0 m1 m2 m3 m4 m5 m6 m7 m8 m9 m10 m11 mr mc me mw 0 mn mu ms mt md mz mi mk mo mj ml)) (fun u => (W_X5 cI m0 m1 m2 m3 m4 m5 m6 m7 m8 m9 m10 m11 mr mc me mw 0 mn mu ms mt md mz mi mk mo mj ml)) hP hK hD hN hS hA [0, 1, 2, 3, 4, 5, 6, 7, 8, 9, 10, 11] [] rfl rfl (by decide) (by decide) (by decide) [0, 1, 2, 3, 4, 5, 6, 7, 8, 9, 10, 11] (by decide) (fun _ => rfl) (fun hg => va_runV (As := [.int a1]) (rest := []) ⟨hx, hb, hml, hown, hts⟩ (c_X5_isTicket l D cI m0 m1 m2 m3 m4 m5 m6 m7 m8 m9 m10 m11 mr mc me mw (0 : Int32) mn mu ms mt md mz mi mk mo mj ml _ a1) (cwV 1 hts gX5_mergedInto_X5_isTicket rfl rfl rfl (by decide +kernel) ⟨Nat.le_of_ble_eq_true rfl, Nat.le_of_ble_eq_true rfl⟩) ⟨PW.blind, va_recv hK hP (ci := 5) (q0 := 0) rfl rfl, fun U hU hW => ⟨rfl, hg U hU hW⟩⟩ rfl rfl hl.1 rfl (lv_room (Nat.le_of_ble_eq_true rfl)) dX5_mergedInto_7 ⟨Nat.le_of_ble_eq_true rfl, Nat.le_of_ble_eq_true rfl⟩) (fun r1 u H locs hw hP hD hS => ?_)
  obtain ⟨hw, hb1⟩ := hw
  subst hw
  obtain ⟨j2, hJ2⟩ : ∃ z : Int32, z = (if (f_X5_isTicket mc a1) = 0 then ((-1) : Int32) else (if (mz (a1).toNatClampNeg) = 3 then (mi (a1).toNatClampNeg) else ((-1) : Int32))) := ⟨_, rfl⟩
  rw [← hJ2] at he
  try dsimp only at he
  have hpJ2 := hp.1
  replace hp := hp.2 _  hJ2.symm
  have kont2 : ∀ (H : Heap) (locs : List Loc), va_P D vwCl (W_X5 cI m0 m1 m2 m3 m4 m5 m6 m7 m8 m9 m10 m11 mr mc me mw 0 mn mu ms mt md mz mi mk mo mj ml) H → va_D A (W_X5 cI m0 m1 m2 m3 m4 m5 m6 m7 m8 m9 m10 m11 mr mc me mw 0 mn mu ms mt md mz mi mk mo mj ml) → va_S A s.heap H locs → ∀ ls : Array Slot, lv_has ls 2 [] → W p l e (headSpec wsX5_mergedInto rm_X5_mergedInto).room s m ([.ref m0, .int a1] : List Value).toArray below meth c H locs 0 0 (MQ below (Q_X5_mergedInto D cI m0 m1 m2 m3 m4 m5 m6 m7 m8 m9 m10 m11 mr mc me mw mh mn mu ms mt md mz mi mk mo mj ml a1 A) ([.ref m0, .int a1] : List Value).toArray s 0 0 A) (F0 m 33 ls [.int j2]) := by
    intro H locs hP hD hS ls hl
    exact W.iret (v := j2) hx hb hr (fun t ht hW => ⟨⟨j2, 0, rfl, he, by rw [ht]; exact hP, va_K.moved hW.alike hK, hD⟩, hS.F ht⟩) hS.2.2 dX5_mergedInto_33
  replace he := hJ2
  replace hp := hpJ2
  refine lv_if_eq (tgt := 32) hx hb dX5_mergedInto_10 (by decide) (fun c3 => ?_) (fun c3 => ?_)
  · replace hp := hp.1 c3
    replace he := he.trans (if_pos c3)
    refine lv_iconst (v := (-1)) hx hb dX5_mergedInto_32 (by decide) ?_
    subst he
    exact kont2 _ _ hP hD hS _ (lv_sub hl [] rfl)
  · replace hp := hp.2 c3
    replace he := he.trans (if_neg c3)
    refine lv_aload_n hx hb dX5_mergedInto_13 rfl (lv_at hl 0 rfl) ?_
    refine va_get (D := D) (ci := 5) (v := .ref m6) (C := RX5) (T := TX5) (N := 16) hx hb hts (by decide +kernel) hown hK hP 0 rfl rfl 6 (by decide) (hts (.fieldLink RX5 25 "AlarmgroveModel" "states" "[I") (by decide +kernel)) (fun _ h9 => h9) rfl dX5_mergedInto_14 ?_
    refine lv_iload_n hx hb dX5_mergedInto_17 rfl (lv_at hl 1 rfl) ?_
    have h4 := hp.1
    replace hp := hp.2
    refine va_iald hx hb hK hP 6 0 rfl rfl h4 dX5_mergedInto_18 ?_
    refine lv_iconst (v := 3) hx hb dX5_mergedInto_19 (by decide) ?_
    refine lv_icmp_ne (tgt := 32) hx hb dX5_mergedInto_20 (by decide) (fun c5 => ?_) (fun c5 => ?_)
    · replace hp := hp.2 c5
      replace he := he.trans (if_neg c5)
      refine lv_iconst (v := (-1)) hx hb dX5_mergedInto_32 (by decide) ?_
      subst he
      exact kont2 _ _ hP hD hS _ (lv_sub hl [] rfl)
    · replace hp := hp.1 c5
      replace he := he.trans (if_pos c5)
      refine lv_aload_n hx hb dX5_mergedInto_23 rfl (lv_at hl 0 rfl) ?_
      refine va_get (D := D) (ci := 5) (v := .ref m7) (C := RX5) (T := TX5) (N := 16) hx hb hts (by decide +kernel) hown hK hP 0 rfl rfl 7 (by decide) (hts (.fieldLink RX5 28 "AlarmgroveModel" "into" "[I") (by decide +kernel)) (fun _ h9 => h9) rfl dX5_mergedInto_24 ?_
      refine lv_iload_n hx hb dX5_mergedInto_27 rfl (lv_at hl 1 rfl) ?_
      have h6 := hp.1
      replace hp := hp.2
      refine va_iald hx hb hK hP 7 0 rfl rfl h6 dX5_mergedInto_28 ?_
      refine lv_goto (tgt := 33) hx hb dX5_mergedInto_29 (by decide) ?_
      subst he
      exact kont2 _ _ hP hD hS _ (lv_sub hl [] rfl)
abbrev rm_X5_plausible : Room := { frames := 1, cells := 0, slots := 0, locals := 21 }
abbrev Q_X5_plausible (D : va_G) (cI : ClassId) (m0 m1 m2 m3 m4 m5 m6 m7 m8 m9 m10 m11 : Nat) (mr : Int32) (mc : Int32) (me : Int32) (mw : Int32) (mh : Int32) (mn : AA) (mu : AA) (ms : AA) (mt : AA) (md : AA) (mz : AA) (mi : AA) (mk : AA) (mo : AA) (mj : AA) (ml : AA) (a1 : Int32) (A : Nat → Prop) : Array Value → State → Outcome → State → Prop := va_Qi (S := Unit) (fun r u => f_X5_plausible mr mn a1 = r ∧ (r = 0 ∨ r = 1)) (fun u t => QW D [(cI, .int)] A (W_X5 cI m0 m1 m2 m3 m4 m5 m6 m7 m8 m9 m10 m11 mr mc me mw mh mn mu ms mt md mz mi mk mo mj ml) t) A
set_option maxHeartbeats 4000000 in
set_option maxRecDepth 100000 in
theorem c_X5_plausible (l : Launch)  (D : va_G) (cI : ClassId) (m0 m1 m2 m3 m4 m5 m6 m7 m8 m9 m10 m11 : Nat) (mr : Int32) (mc : Int32) (me : Int32) (mw : Int32) (mh : Int32) (mn : AA) (mu : AA) (ms : AA) (mt : AA) (md : AA) (mz : AA) (mi : AA) (mk : AA) (mo : AA) (mj : AA) (ml : AA) (sz : Nat) (a1 : Int32) (hp : p_X5_plausible mr mn a1) : Met l yX5_plausible wsX5_plausible rm_X5_plausible (va_Pc [.ref m0, .int a1] (PW D [(cI, .int)] sz (W_X5 cI m0 m1 m2 m3 m4 m5 m6 m7 m8 m9 m10 m11 mr mc me mw mh mn mu ms mt md mz mi mk mo mj ml))) (Q_X5_plausible D cI m0 m1 m2 m3 m4 m5 m6 m7 m8 m9 m10 m11 mr mc me mw mh mn mu ms mt md mz mi mk mo mj ml a1 (va_A (W_X5 cI m0 m1 m2 m3 m4 m5 m6 m7 m8 m9 m10 m11 mr mc me mw mh mn mu ms mt md mz mi mk mo mj ml) sz)) 0 0 (va_A (W_X5 cI m0 m1 m2 m3 m4 m5 m6 m7 m8 m9 m10 m11 mr mc me mw mh mn mu ms mt md mz mi mk mo mj ml) sz) := by
  refine Met.ofW (cc := cX5_plausible) (maxL := 4) (ret := (some .boolean)) (by decide) rfl ?_
  intro p e s m args below meth c s₁ B hml hv
  obtain ⟨rfl, hsz, hP, hK, hD0, hN⟩ := hv
  have hx := B.exec
  have hb := B.bytes
  have hr := B.returns
  have hts := atoms_spec (ws := wsX5_plausible) B.pre
  have hown : s.vm.findClass RX5 = some m.cls := findClass_of_methodNamed B.named
  have hlocks := B.notSynchronized
  subst hsz
  have hD := hD0.self (sz := s.heap.size)
  generalize hAe : va_A (W_X5 cI m0 m1 m2 m3 m4 m5 m6 m7 m8 m9 m10 m11 mr mc me mw mh mn mu ms mt md mz mi mk mo mj ml) s.heap.size = A at hD ⊢
  have hA : ∀ q : Nat, s.heap.size ≤ q → A q := fun q h => by rw [← hAe]; exact Or.inr h
  have hS : va_S A s.heap s.heap [] := va_S.rf
  have hl := lv_entry ([.ref m0, .int a1]) (n := 4) (Nat.le_of_ble_eq_true rfl)
  rw [lg_entry_eq]
  generalize (lg_sl ([.ref m0, .int a1]) ++ List.replicate (4 - (lg_sl ([.ref m0, .int a1])).length) Slot.unset).toArray = ls at hl ⊢
  have hl : lv_has ls 4 [(0, .ref m0), (1, .int a1)] := hl
  have he := f_X5_plausible.eq_1 mr mn a1
  replace hp := Eq.mp (p_X5_plausible.eq_1 ..) hp
  refine lv_iconst (v := 0) hx hb dX5_plausible_0 (by decide) ?_
  refine lv_istore_n (lv' := [(2, .int 0), (0, .ref m0), (1, .int a1)]) hx hb dX5_plausible_1 rfl hl (by decide) rfl (fun ls hl => ?_)
  refine lv_iconst (v := 0) hx hb dX5_plausible_2 (by decide) ?_
  refine lv_istore_n (lv' := [(3, .int 0), (2, .int 0), (0, .ref m0), (1, .int a1)]) hx hb dX5_plausible_3 rfl hl (by decide) rfl (fun ls hl => ?_)
  obtain ⟨⟨r1_v4_2, r1_v4_3⟩, hL1⟩ : ∃ z, z = f_X5_plausible_L4 mn a1 15 (0 : Int32) (0 : Int32) := ⟨_, rfl⟩
  rw [← hL1] at he
  try dsimp only at he
  have hpL1 := hp.1
  replace hp := hp.2 _ _ hL1.symm
  have kont1 : ∀ (x1_v4_2 : Int32) (x1_v4_3 : Int32), (r1_v4_2, r1_v4_3) = (x1_v4_2, x1_v4_3) → ∀ (H : Heap) (locs : List Loc), va_P D vwCl (W_X5 cI m0 m1 m2 m3 m4 m5 m6 m7 m8 m9 m10 m11 mr mc me mw mh mn mu ms mt md mz mi mk mo mj ml) H → va_D A (W_X5 cI m0 m1 m2 m3 m4 m5 m6 m7 m8 m9 m10 m11 mr mc me mw mh mn mu ms mt md mz mi mk mo mj ml) → va_S A s.heap H locs → ∀ ls : Array Slot, lv_has ls 4 [(2, .int x1_v4_2), (0, .ref m0), (1, .int a1)] → W p l e (headSpec wsX5_plausible rm_X5_plausible).room s m ([.ref m0, .int a1] : List Value).toArray below meth c H locs 0 0 (MQ below (Q_X5_plausible D cI m0 m1 m2 m3 m4 m5 m6 m7 m8 m9 m10 m11 mr mc me mw mh mn mu ms mt md mz mi mk mo mj ml a1 A) ([.ref m0, .int a1] : List Value).toArray s 0 0 A) (F0 m 39 ls []) := by
    intro x1_v4_2 x1_v4_3 hxe H locs hP hD hS ls hl
    simp only [Prod.mk.injEq] at hxe
    obtain ⟨rfl, rfl⟩ := hxe
    refine lv_aload_n hx hb dX5_plausible_39 rfl (lv_at hl 1 rfl) ?_
    refine va_get (D := D) (ci := 5) (v := .int mr) (C := RX5) (T := TX5) (N := 16) hx hb hts (by decide +kernel) hown hK hP 0 rfl rfl 2 (by decide) (hts (.fieldLink RX5 68 "AlarmgroveModel" "raised" "I") (by decide +kernel)) (fun _ h9 => h9) rfl dX5_plausible_40 ?_
    refine lv_iload_n hx hb dX5_plausible_43 rfl (lv_at hl 2 rfl) ?_
    refine k_calli (S := Unit) (wc := ([] : va_W)) (wr := (W_X5 cI m0 m1 m2 m3 m4 m5 m6 m7 m8 m9 m10 m11 mr mc me mw mh mn mu ms mt md mz mi mk mo mj ml)) (w1 := fun u => ([] : va_W)) (fun u => (W_X5 cI m0 m1 m2 m3 m4 m5 m6 m7 m8 m9 m10 m11 mr mc me mw mh mn mu ms mt md mz mi mk mo mj ml)) hP hK hD hN hS hA [] [0, 1, 2, 3, 4, 5, 6, 7, 8, 9, 10, 11] rfl rfl (by decide) (by decide) (by decide) [0, 1, 2, 3, 4, 5, 6, 7, 8, 9, 10, 11] (by decide) (fun _ => rfl) (fun hg => va_runS (As := [.int mr, .int a1]) (rest := []) ⟨hx, hb, hml, hown, hts⟩ (c_X5_has l D cI _ mr a1) (va_cwS 2 hts gX5_plausible_X5_has rfl rfl rfl (by decide +kernel) ⟨Nat.le_of_ble_eq_true rfl, Nat.le_of_ble_eq_true rfl⟩) ⟨PW.blind, fun U hU hW => ⟨rfl, hg U hU hW⟩⟩ rfl rfl hl.1 rfl (lv_room (Nat.le_of_ble_eq_true rfl)) dX5_plausible_44 ⟨Nat.le_of_ble_eq_true rfl, Nat.le_of_ble_eq_true rfl⟩) (fun r7 u H locs hw hP hD hS => ?_)
    obtain ⟨hw, hb7⟩ := hw
    subst hw
    obtain ⟨j8, hJ8⟩ : ∃ z : Int32, z = (if (f_X5_has mr a1) = 0 then (if r1_v4_2 = 0 then (0 : Int32) else (if (r1_v4_2 &&& mr) = r1_v4_2 then (1 : Int32) else (0 : Int32))) else (1 : Int32)) := ⟨_, rfl⟩
    rw [← hJ8] at he
    try dsimp only at he
    have hpJ8 := hp.1
    replace hp := hp.2 _  hJ8.symm
    have kont8 : (j8 = 0 ∨ j8 = 1) → ∀ (H : Heap) (locs : List Loc), va_P D vwCl (W_X5 cI m0 m1 m2 m3 m4 m5 m6 m7 m8 m9 m10 m11 mr mc me mw mh mn mu ms mt md mz mi mk mo mj ml) H → va_D A (W_X5 cI m0 m1 m2 m3 m4 m5 m6 m7 m8 m9 m10 m11 mr mc me mw mh mn mu ms mt md mz mi mk mo mj ml) → va_S A s.heap H locs → ∀ ls : Array Slot, lv_has ls 4 [] → W p l e (headSpec wsX5_plausible rm_X5_plausible).room s m ([.ref m0, .int a1] : List Value).toArray below meth c H locs 0 0 (MQ below (Q_X5_plausible D cI m0 m1 m2 m3 m4 m5 m6 m7 m8 m9 m10 m11 mr mc me mw mh mn mu ms mt md mz mi mk mo mj ml a1 A) ([.ref m0, .int a1] : List Value).toArray s 0 0 A) (F0 m 69 ls [.int j8]) := by
      intro hb8 H locs hP hD hS ls hl
      exact W.zret (ty := .boolean) (v := j8) hx hb hr (by rcases hb8 with h9 | h9 <;> rw [h9] <;> rfl) (fun t ht hW => ⟨⟨j8, (), rfl, ⟨he, hb8⟩, by rw [ht]; exact hP, va_K.moved hW.alike hK, hD⟩, hS.F ht⟩) hS.2.2 dX5_plausible_69
    replace he := hJ8
    replace hp := hpJ8
    refine lv_if_ne (tgt := 64) hx hb dX5_plausible_47 (by decide) (fun c9 => ?_) (fun c9 => ?_)
    · replace hp := hp.2 c9
      replace he := he.trans (if_neg c9)
      refine lv_iconst (v := 1) hx hb dX5_plausible_64 (by decide) ?_
      refine lv_goto (tgt := 69) hx hb dX5_plausible_65 (by decide) ?_
      subst he
      exact kont8 (Or.inr rfl) _ _ hP hD hS _ (lv_sub hl [] rfl)
    · replace hp := hp.1 c9
      replace he := he.trans (if_pos c9)
      refine lv_iload_n hx hb dX5_plausible_50 rfl (lv_at hl 0 rfl) ?_
      refine lv_if_eq (tgt := 68) hx hb dX5_plausible_51 (by decide) (fun c10 => ?_) (fun c10 => ?_)
      · replace hp := hp.1 c10
        replace he := he.trans (if_pos c10)
        refine lv_iconst (v := 0) hx hb dX5_plausible_68 (by decide) ?_
        subst he
        exact kont8 (Or.inl rfl) _ _ hP hD hS _ (lv_sub hl [] rfl)
      · replace hp := hp.2 c10
        replace he := he.trans (if_neg c10)
        refine lv_iload_n hx hb dX5_plausible_54 rfl (lv_at hl 0 rfl) ?_
        refine lv_aload_n hx hb dX5_plausible_55 rfl (lv_at hl 1 rfl) ?_
        refine va_get (D := D) (ci := 5) (v := .int mr) (C := RX5) (T := TX5) (N := 16) hx hb hts (by decide +kernel) hown hK hP 0 rfl rfl 2 (by decide) (hts (.fieldLink RX5 68 "AlarmgroveModel" "raised" "I") (by decide +kernel)) (fun _ h9 => h9) rfl dX5_plausible_56 ?_
        refine lv_iand hx hb dX5_plausible_59 ?_
        refine lv_iload_n hx hb dX5_plausible_60 rfl (lv_at hl 0 rfl) ?_
        refine lv_icmp_ne (tgt := 68) hx hb dX5_plausible_61 (by decide) (fun c11 => ?_) (fun c11 => ?_)
        · replace hp := hp.2 c11
          replace he := he.trans (if_neg c11)
          refine lv_iconst (v := 0) hx hb dX5_plausible_68 (by decide) ?_
          subst he
          exact kont8 (Or.inl rfl) _ _ hP hD hS _ (lv_sub hl [] rfl)
        · replace hp := hp.1 c11
          replace he := he.trans (if_pos c11)
          refine lv_iconst (v := 1) hx hb dX5_plausible_64 (by decide) ?_
          refine lv_goto (tgt := 69) hx hb dX5_plausible_65 (by decide) ?_
          subst he
          exact kont8 (Or.inr rfl) _ _ hP hD hS _ (lv_sub hl [] rfl)
  have loop1 : ∀ (n : Nat) (v4_2 : Int32) (v4_3 : Int32), p_X5_plausible_L4 mn a1 n v4_2 v4_3 → (r1_v4_2, r1_v4_3) = f_X5_plausible_L4 mn a1 n v4_2 v4_3 → ∀ (H : Heap) (locs : List Loc), va_P D vwCl (W_X5 cI m0 m1 m2 m3 m4 m5 m6 m7 m8 m9 m10 m11 mr mc me mw mh mn mu ms mt md mz mi mk mo mj ml) H → va_D A (W_X5 cI m0 m1 m2 m3 m4 m5 m6 m7 m8 m9 m10 m11 mr mc me mw mh mn mu ms mt md mz mi mk mo mj ml) → va_S A s.heap H locs → ∀ ls : Array Slot, lv_has ls 4 [(3, .int v4_3), (2, .int v4_2), (0, .ref m0), (1, .int a1)] → W p l e (headSpec wsX5_plausible rm_X5_plausible).room s m ([.ref m0, .int a1] : List Value).toArray below meth c H locs 0 0 (MQ below (Q_X5_plausible D cI m0 m1 m2 m3 m4 m5 m6 m7 m8 m9 m10 m11 mr mc me mw mh mn mu ms mt md mz mi mk mo mj ml a1 A) ([.ref m0, .int a1] : List Value).toArray s 0 0 A) (F0 m 4 ls []) := by
    intro n
    induction n with
    | zero => exact fun _ _ hp => hp.elim
    | succ n ih =>
      intro v4_2 v4_3 hp he H locs hP hD hS ls hl
      replace hp := Eq.mp (p_X5_plausible_L4.eq_2 ..) hp
      replace he := he.trans (f_X5_plausible_L4.eq_2 ..)
      refine lv_iload_n hx hb dX5_plausible_4 rfl (lv_at hl 0 rfl) ?_
      refine lv_bipush (v := 14) hx hb dX5_plausible_5 (by decide) ?_
      refine lv_icmp_ge (tgt := 39) hx hb dX5_plausible_7 (by decide) (fun c2 => ?_) (fun c2 => ?_)
      · replace hp := hp.1 c2
        replace he := he.trans (if_pos c2)
        exact kont1 _ _ he _ _ hP hD hS _ (lv_sub hl [1, 2, 3] rfl)
      · replace hp := hp.2 c2
        replace he := he.trans (if_neg c2)
        refine lv_iload_n hx hb dX5_plausible_10 rfl (lv_at hl 1 rfl) ?_
        refine lv_aload_n hx hb dX5_plausible_11 rfl (lv_at hl 2 rfl) ?_
        refine va_get (D := D) (ci := 5) (v := .ref m1) (C := RX5) (T := TX5) (N := 16) hx hb hts (by decide +kernel) hown hK hP 0 rfl rfl 0 (by decide) (hts (.fieldLink RX5 7 "AlarmgroveModel" "needs" "[I") (by decide +kernel)) (fun _ h9 => h9) rfl dX5_plausible_12 ?_
        refine lv_iload_n hx hb dX5_plausible_15 rfl (lv_at hl 0 rfl) ?_
        have h3 := hp.1
        replace hp := hp.2
        refine va_iald hx hb hK hP 1 0 rfl rfl h3 dX5_plausible_16 ?_
        refine lv_iload_n hx hb dX5_plausible_17 rfl (lv_at hl 3 rfl) ?_
        refine k_calli (S := Unit) (wc := ([] : va_W)) (wr := (W_X5 cI m0 m1 m2 m3 m4 m5 m6 m7 m8 m9 m10 m11 mr mc me mw mh mn mu ms mt md mz mi mk mo mj ml)) (w1 := fun u => ([] : va_W)) (fun u => (W_X5 cI m0 m1 m2 m3 m4 m5 m6 m7 m8 m9 m10 m11 mr mc me mw mh mn mu ms mt md mz mi mk mo mj ml)) hP hK hD hN hS hA [] [0, 1, 2, 3, 4, 5, 6, 7, 8, 9, 10, 11] rfl rfl (by decide) (by decide) (by decide) [0, 1, 2, 3, 4, 5, 6, 7, 8, 9, 10, 11] (by decide) (fun _ => rfl) (fun hg => va_runS (As := [.int (mn (v4_3).toNatClampNeg), .int a1]) (rest := [.int v4_2]) ⟨hx, hb, hml, hown, hts⟩ (c_X5_has l D cI _ (mn (v4_3).toNatClampNeg) a1) (va_cwS 2 hts gX5_plausible_X5_has rfl rfl rfl (by decide +kernel) ⟨Nat.le_of_ble_eq_true rfl, Nat.le_of_ble_eq_true rfl⟩) ⟨PW.blind, fun U hU hW => ⟨rfl, hg U hU hW⟩⟩ rfl rfl hl.1 rfl (lv_room (Nat.le_of_ble_eq_true rfl)) dX5_plausible_18 ⟨Nat.le_of_ble_eq_true rfl, Nat.le_of_ble_eq_true rfl⟩) (fun r4 u H locs hw hP hD hS => ?_)
        obtain ⟨hw, hb4⟩ := hw
        subst hw
        obtain ⟨j5, hJ5⟩ : ∃ z : Int32, z = (if (f_X5_has (mn (v4_3).toNatClampNeg) a1) = 0 then (0 : Int32) else (1 <<< (v4_3 &&& 31))) := ⟨_, rfl⟩
        rw [← hJ5] at he
        try dsimp only at he
        have hpJ5 := hp.1
        replace hp := hp.2 _  hJ5.symm
        have kont5 : ∀ (H : Heap) (locs : List Loc), va_P D vwCl (W_X5 cI m0 m1 m2 m3 m4 m5 m6 m7 m8 m9 m10 m11 mr mc me mw mh mn mu ms mt md mz mi mk mo mj ml) H → va_D A (W_X5 cI m0 m1 m2 m3 m4 m5 m6 m7 m8 m9 m10 m11 mr mc me mw mh mn mu ms mt md mz mi mk mo mj ml) → va_S A s.heap H locs → ∀ ls : Array Slot, lv_has ls 4 [(3, .int v4_3), (0, .ref m0), (1, .int a1)] → W p l e (headSpec wsX5_plausible rm_X5_plausible).room s m ([.ref m0, .int a1] : List Value).toArray below meth c H locs 0 0 (MQ below (Q_X5_plausible D cI m0 m1 m2 m3 m4 m5 m6 m7 m8 m9 m10 m11 mr mc me mw mh mn mu ms mt md mz mi mk mo mj ml a1 A) ([.ref m0, .int a1] : List Value).toArray s 0 0 A) (F0 m 31 ls [.int j5, .int v4_2]) := by
          intro H locs hP hD hS ls hl
          refine lv_ior hx hb dX5_plausible_31 ?_
          refine lv_istore_n (lv' := [(2, .int (v4_2 ||| j5)), (3, .int v4_3), (0, .ref m0), (1, .int a1)]) hx hb dX5_plausible_32 rfl hl (by decide) rfl (fun ls hl => ?_)
          refine lv_iinc (v := (v4_3 + 1)) (lv' := [(3, .int (v4_3 + 1)), (2, .int (v4_2 ||| j5)), (0, .ref m0), (1, .int a1)]) hx hb dX5_plausible_33 hl (k := 1) rfl rfl (by decide) rfl (fun ls hl => ?_)
          refine lv_goto (tgt := 4) hx hb dX5_plausible_36 (by decide) ?_
          exact ih _ _ hp he _ _ hP hD hS _ (lv_sub hl [0, 1, 2, 3] rfl)
        replace he := hJ5
        replace hp := hpJ5
        refine lv_if_eq (tgt := 30) hx hb dX5_plausible_21 (by decide) (fun c6 => ?_) (fun c6 => ?_)
        · replace hp := hp.1 c6
          replace he := he.trans (if_pos c6)
          refine lv_iconst (v := 0) hx hb dX5_plausible_30 (by decide) ?_
          subst he
          exact kont5 _ _ hP hD hS _ (lv_sub hl [0, 2, 3] rfl)
        · replace hp := hp.2 c6
          replace he := he.trans (if_neg c6)
          refine lv_iconst (v := 1) hx hb dX5_plausible_24 (by decide) ?_
          refine lv_iload_n hx hb dX5_plausible_25 rfl (lv_at hl 0 rfl) ?_
          refine lv_ishl hx hb dX5_plausible_26 ?_
          refine lv_goto (tgt := 31) hx hb dX5_plausible_27 (by decide) ?_
          subst he
          exact kont5 _ _ hP hD hS _ (lv_sub hl [0, 2, 3] rfl)
  exact loop1 15 (0 : Int32) (0 : Int32) hpL1 hL1 _ _ hP hD hS _ (lv_sub hl [0, 1, 2, 3] rfl)
abbrev rm_X5_isPlausible : Room := { frames := 2, cells := 0, slots := 0, locals := 44 }
abbrev Q_X5_isPlausible (D : va_G) (cI : ClassId) (m0 m1 m2 m3 m4 m5 m6 m7 m8 m9 m10 m11 : Nat) (mr : Int32) (mc : Int32) (me : Int32) (mw : Int32) (mh : Int32) (mn : AA) (mu : AA) (ms : AA) (mt : AA) (md : AA) (mz : AA) (mi : AA) (mk : AA) (mo : AA) (mj : AA) (ml : AA) (a1 : Int32) (A : Nat → Prop) : Array Value → State → Outcome → State → Prop := va_Qi (S := Int32) (fun r u => f_X5_isPlausible mr mn a1 = (r, u) ∧ (r = 0 ∨ r = 1)) (fun u t => QW D [(cI, .int)] A (W_X5 cI m0 m1 m2 m3 m4 m5 m6 m7 m8 m9 m10 m11 mr mc me mw u mn mu ms mt md mz mi mk mo mj ml) t) A
set_option maxHeartbeats 4000000 in
set_option maxRecDepth 100000 in
theorem c_X5_isPlausible (l : Launch)  (D : va_G) (cI : ClassId) (m0 m1 m2 m3 m4 m5 m6 m7 m8 m9 m10 m11 : Nat) (mr : Int32) (mc : Int32) (me : Int32) (mw : Int32) (mh : Int32) (mn : AA) (mu : AA) (ms : AA) (mt : AA) (md : AA) (mz : AA) (mi : AA) (mk : AA) (mo : AA) (mj : AA) (ml : AA) (sz : Nat) (a1 : Int32) (hp : p_X5_isPlausible mr mn a1) : Met l yX5_isPlausible wsX5_isPlausible rm_X5_isPlausible (va_Pc [.ref m0, .int a1] (PW D [(cI, .int)] sz (W_X5 cI m0 m1 m2 m3 m4 m5 m6 m7 m8 m9 m10 m11 mr mc me mw mh mn mu ms mt md mz mi mk mo mj ml))) (Q_X5_isPlausible D cI m0 m1 m2 m3 m4 m5 m6 m7 m8 m9 m10 m11 mr mc me mw mh mn mu ms mt md mz mi mk mo mj ml a1 (va_A (W_X5 cI m0 m1 m2 m3 m4 m5 m6 m7 m8 m9 m10 m11 mr mc me mw mh mn mu ms mt md mz mi mk mo mj ml) sz)) 0 0 (va_A (W_X5 cI m0 m1 m2 m3 m4 m5 m6 m7 m8 m9 m10 m11 mr mc me mw mh mn mu ms mt md mz mi mk mo mj ml) sz) := by
  refine Met.ofW (cc := cX5_isPlausible) (maxL := 2) (ret := (some .boolean)) (by decide) rfl ?_
  intro p e s m args below meth c s₁ B hml hv
  obtain ⟨rfl, hsz, hP, hK, hD0, hN⟩ := hv
  have hx := B.exec
  have hb := B.bytes
  have hr := B.returns
  have hts := atoms_spec (ws := wsX5_isPlausible) B.pre
  have hown : s.vm.findClass RX5 = some m.cls := findClass_of_methodNamed B.named
  have hlocks := B.notSynchronized
  subst hsz
  have hD := hD0.self (sz := s.heap.size)
  generalize hAe : va_A (W_X5 cI m0 m1 m2 m3 m4 m5 m6 m7 m8 m9 m10 m11 mr mc me mw mh mn mu ms mt md mz mi mk mo mj ml) s.heap.size = A at hD ⊢
  have hA : ∀ q : Nat, s.heap.size ≤ q → A q := fun q h => by rw [← hAe]; exact Or.inr h
  have hS : va_S A s.heap s.heap [] := va_S.rf
  have hl := lv_entry ([.ref m0, .int a1]) (n := 2) (Nat.le_of_ble_eq_true rfl)
  rw [lg_entry_eq]
  generalize (lg_sl ([.ref m0, .int a1]) ++ List.replicate (2 - (lg_sl ([.ref m0, .int a1])).length) Slot.unset).toArray = ls at hl ⊢
  have hl : lv_has ls 2 [(0, .ref m0), (1, .int a1)] := hl
  have he := f_X5_isPlausible.eq_1 mr mn a1
  replace hp := Eq.mp (p_X5_isPlausible.eq_1 ..) hp
  refine lv_aload_n hx hb dX5_isPlausible_0 rfl (lv_at hl 0 rfl) ?_
  refine lv_iload_n hx hb dX5_isPlausible_1 rfl (lv_at hl 1 rfl) ?_
  refine k_calli (S := Unit) (wc := ([] : va_W)) (wr := (W_X5 cI m0 m1 m2 m3 m4 m5 m6 m7 m8 m9 m10 m11 mr mc me mw mh mn mu ms mt md mz mi mk mo mj ml)) (w1 := fun u => ([] : va_W)) (fun u => (W_X5 cI m0 m1 m2 m3 m4 m5 m6 m7 m8 m9 m10 m11 mr mc me mw mh mn mu ms mt md mz mi mk mo mj ml)) hP hK hD hN hS hA [] [0, 1, 2, 3, 4, 5, 6, 7, 8, 9, 10, 11] rfl rfl (by decide) (by decide) (by decide) [0, 1, 2, 3, 4, 5, 6, 7, 8, 9, 10, 11] (by decide) (fun _ => rfl) (fun hg => va_runS (As := [.int a1]) (rest := [.ref m0]) ⟨hx, hb, hml, hown, hts⟩ (c_X5_isNode l D cI _ a1) (va_cwS 1 hts gX5_isPlausible_X5_isNode rfl rfl rfl (by decide +kernel) ⟨Nat.le_of_ble_eq_true rfl, Nat.le_of_ble_eq_true rfl⟩) ⟨PW.blind, fun U hU hW => ⟨rfl, hg U hU hW⟩⟩ rfl rfl hl.1 rfl (lv_room (Nat.le_of_ble_eq_true rfl)) dX5_isPlausible_2 ⟨Nat.le_of_ble_eq_true rfl, Nat.le_of_ble_eq_true rfl⟩) (fun r1 u H locs hw hP hD hS => ?_)
  obtain ⟨hw, hb1⟩ := hw
  subst hw
  refine lv_iconst (v := 1) hx hb dX5_isPlausible_5 (by decide) ?_
  refine k_calli (S := Int32) (wc := (W_X5 cI m0 m1 m2 m3 m4 m5 m6 m7 m8 m9 m10 m11 mr mc me mw mh mn mu ms mt md mz mi mk mo mj ml)) (wr := ([] : va_W)) (w1 := fun u => (W_X5 cI m0 m1 m2 m3 m4 m5 m6 m7 m8 m9 m10 m11 mr mc me mw u mn mu ms mt md mz mi mk mo mj ml)) (fun u => (W_X5 cI m0 m1 m2 m3 m4 m5 m6 m7 m8 m9 m10 m11 mr mc me mw u mn mu ms mt md mz mi mk mo mj ml)) hP hK hD hN hS hA [0, 1, 2, 3, 4, 5, 6, 7, 8, 9, 10, 11] [] rfl rfl (by decide) (by decide) (by decide) [0, 1, 2, 3, 4, 5, 6, 7, 8, 9, 10, 11] (by decide) (fun _ => rfl) (fun hg => va_runV (As := [.int (f_X5_isNode a1), .int 1]) (rest := []) ⟨hx, hb, hml, hown, hts⟩ (c_X5_goes l D cI m0 m1 m2 m3 m4 m5 m6 m7 m8 m9 m10 m11 mr mc me mw mh mn mu ms mt md mz mi mk mo mj ml _ (f_X5_isNode a1) 1) (cwV 2 hts gX5_isPlausible_X5_goes rfl rfl rfl (by decide +kernel) ⟨Nat.le_of_ble_eq_true rfl, Nat.le_of_ble_eq_true rfl⟩) ⟨PW.blind, va_recv hK hP (ci := 5) (q0 := 0) rfl rfl, fun U hU hW => ⟨rfl, hg U hU hW⟩⟩ rfl rfl hl.1 rfl (lv_room (Nat.le_of_ble_eq_true rfl)) dX5_isPlausible_6 ⟨Nat.le_of_ble_eq_true rfl, Nat.le_of_ble_eq_true rfl⟩) (fun r2 u H locs hw hP hD hS => ?_)
  obtain ⟨u2_0, rfl⟩ : ∃ z, z = u := ⟨_, rfl⟩
  obtain ⟨hw, hb2⟩ := hw
  rw [hw] at he
  try dsimp only at he
  replace hp := hp r2 u2_0 hw
  have hP : va_P D vwCl (W_X5 cI m0 m1 m2 m3 m4 m5 m6 m7 m8 m9 m10 m11 mr mc me mw u2_0 mn mu ms mt md mz mi mk mo mj ml) H := hP
  have hD : va_D A (W_X5 cI m0 m1 m2 m3 m4 m5 m6 m7 m8 m9 m10 m11 mr mc me mw u2_0 mn mu ms mt md mz mi mk mo mj ml) := hD
  obtain ⟨j3, hJ3⟩ : ∃ z : Int32, z = (if r2 = 0 then (0 : Int32) else (if (f_X5_plausible mr mn a1) = 0 then (0 : Int32) else (1 : Int32))) := ⟨_, rfl⟩
  rw [← hJ3] at he
  try dsimp only at he
  have hpJ3 := hp.1
  replace hp := hp.2 _  hJ3.symm
  have kont3 : (j3 = 0 ∨ j3 = 1) → ∀ (H : Heap) (locs : List Loc), va_P D vwCl (W_X5 cI m0 m1 m2 m3 m4 m5 m6 m7 m8 m9 m10 m11 mr mc me mw u2_0 mn mu ms mt md mz mi mk mo mj ml) H → va_D A (W_X5 cI m0 m1 m2 m3 m4 m5 m6 m7 m8 m9 m10 m11 mr mc me mw u2_0 mn mu ms mt md mz mi mk mo mj ml) → va_S A s.heap H locs → ∀ ls : Array Slot, lv_has ls 2 [] → W p l e (headSpec wsX5_isPlausible rm_X5_isPlausible).room s m ([.ref m0, .int a1] : List Value).toArray below meth c H locs 0 0 (MQ below (Q_X5_isPlausible D cI m0 m1 m2 m3 m4 m5 m6 m7 m8 m9 m10 m11 mr mc me mw mh mn mu ms mt md mz mi mk mo mj ml a1 A) ([.ref m0, .int a1] : List Value).toArray s 0 0 A) (F0 m 25 ls [.int j3]) := by
    intro hb3 H locs hP hD hS ls hl
    exact W.zret (ty := .boolean) (v := j3) hx hb hr (by rcases hb3 with h9 | h9 <;> rw [h9] <;> rfl) (fun t ht hW => ⟨⟨j3, u2_0, rfl, ⟨he, hb3⟩, by rw [ht]; exact hP, va_K.moved hW.alike hK, hD⟩, hS.F ht⟩) hS.2.2 dX5_isPlausible_25
  replace he := hJ3
  replace hp := hpJ3
  refine lv_if_eq (tgt := 24) hx hb dX5_isPlausible_9 (by decide) (fun c4 => ?_) (fun c4 => ?_)
  · replace hp := hp.1 c4
    replace he := he.trans (if_pos c4)
    refine lv_iconst (v := 0) hx hb dX5_isPlausible_24 (by decide) ?_
    subst he
    exact kont3 (Or.inl rfl) _ _ hP hD hS _ (lv_sub hl [] rfl)
  · replace hp := hp.2 c4
    replace he := he.trans (if_neg c4)
    refine lv_aload_n hx hb dX5_isPlausible_12 rfl (lv_at hl 0 rfl) ?_
    refine lv_iload_n hx hb dX5_isPlausible_13 rfl (lv_at hl 1 rfl) ?_
    have hq5 := hp.1
    replace hp := hp.2
    refine k_calli (S := Unit) (wc := (W_X5 cI m0 m1 m2 m3 m4 m5 m6 m7 m8 m9 m10 m11 mr mc me mw u2_0 mn mu ms mt md mz mi mk mo mj ml)) (wr := ([] : va_W)) (w1 := fun u => (W_X5 cI m0 m1 m2 m3 m4 m5 m6 m7 m8 m9 m10 m11 mr mc me mw u2_0 mn mu ms mt md mz mi mk mo mj ml)) (fun u => (W_X5 cI m0 m1 m2 m3 m4 m5 m6 m7 m8 m9 m10 m11 mr mc me mw u2_0 mn mu ms mt md mz mi mk mo mj ml)) hP hK hD hN hS hA [0, 1, 2, 3, 4, 5, 6, 7, 8, 9, 10, 11] [] rfl rfl (by decide) (by decide) (by decide) [0, 1, 2, 3, 4, 5, 6, 7, 8, 9, 10, 11] (by decide) (fun _ => rfl) (fun hg => va_runV (As := [.int a1]) (rest := []) ⟨hx, hb, hml, hown, hts⟩ (c_X5_plausible l D cI m0 m1 m2 m3 m4 m5 m6 m7 m8 m9 m10 m11 mr mc me mw u2_0 mn mu ms mt md mz mi mk mo mj ml _ a1 hq5) (cwV 1 hts gX5_isPlausible_X5_plausible rfl rfl rfl (by decide +kernel) ⟨Nat.le_of_ble_eq_true rfl, Nat.le_of_ble_eq_true rfl⟩) ⟨PW.blind, va_recv hK hP (ci := 5) (q0 := 0) rfl rfl, fun U hU hW => ⟨rfl, hg U hU hW⟩⟩ rfl rfl hl.1 rfl (lv_room (Nat.le_of_ble_eq_true rfl)) dX5_isPlausible_14 ⟨Nat.le_of_ble_eq_true rfl, Nat.le_of_ble_eq_true rfl⟩) (fun r5 u H locs hw hP hD hS => ?_)
    obtain ⟨hw, hb5⟩ := hw
    subst hw
    refine lv_if_eq (tgt := 24) hx hb dX5_isPlausible_17 (by decide) (fun c6 => ?_) (fun c6 => ?_)
    · replace hp := hp.1 c6
      replace he := he.trans (if_pos c6)
      refine lv_iconst (v := 0) hx hb dX5_isPlausible_24 (by decide) ?_
      subst he
      exact kont3 (Or.inl rfl) _ _ hP hD hS _ (lv_sub hl [] rfl)
    · replace hp := hp.2 c6
      replace he := he.trans (if_neg c6)
      refine lv_iconst (v := 1) hx hb dX5_isPlausible_20 (by decide) ?_
      refine lv_goto (tgt := 25) hx hb dX5_isPlausible_21 (by decide) ?_
      subst he
      exact kont3 (Or.inr rfl) _ _ hP hD hS _ (lv_sub hl [] rfl)
abbrev rm_X5_explains : Room := { frames := 1, cells := 0, slots := 0, locals := 21 }
abbrev Q_X5_explains (D : va_G) (cI : ClassId) (m0 m1 m2 m3 m4 m5 m6 m7 m8 m9 m10 m11 : Nat) (mr : Int32) (mc : Int32) (me : Int32) (mw : Int32) (mh : Int32) (mn : AA) (mu : AA) (ms : AA) (mt : AA) (md : AA) (mz : AA) (mi : AA) (mk : AA) (mo : AA) (mj : AA) (ml : AA) (a1 : Int32) (A : Nat → Prop) : Array Value → State → Outcome → State → Prop := va_Qi (S := Unit) (fun r u => f_X5_explains mu a1 = r) (fun u t => QW D [(cI, .int)] A (W_X5 cI m0 m1 m2 m3 m4 m5 m6 m7 m8 m9 m10 m11 mr mc me mw mh mn mu ms mt md mz mi mk mo mj ml) t) A
set_option maxHeartbeats 4000000 in
set_option maxRecDepth 100000 in
theorem c_X5_explains (l : Launch)  (D : va_G) (cI : ClassId) (m0 m1 m2 m3 m4 m5 m6 m7 m8 m9 m10 m11 : Nat) (mr : Int32) (mc : Int32) (me : Int32) (mw : Int32) (mh : Int32) (mn : AA) (mu : AA) (ms : AA) (mt : AA) (md : AA) (mz : AA) (mi : AA) (mk : AA) (mo : AA) (mj : AA) (ml : AA) (sz : Nat) (a1 : Int32) (hp : p_X5_explains mu a1) : Met l yX5_explains wsX5_explains rm_X5_explains (va_Pc [.ref m0, .int a1] (PW D [(cI, .int)] sz (W_X5 cI m0 m1 m2 m3 m4 m5 m6 m7 m8 m9 m10 m11 mr mc me mw mh mn mu ms mt md mz mi mk mo mj ml))) (Q_X5_explains D cI m0 m1 m2 m3 m4 m5 m6 m7 m8 m9 m10 m11 mr mc me mw mh mn mu ms mt md mz mi mk mo mj ml a1 (va_A (W_X5 cI m0 m1 m2 m3 m4 m5 m6 m7 m8 m9 m10 m11 mr mc me mw mh mn mu ms mt md mz mi mk mo mj ml) sz)) 0 0 (va_A (W_X5 cI m0 m1 m2 m3 m4 m5 m6 m7 m8 m9 m10 m11 mr mc me mw mh mn mu ms mt md mz mi mk mo mj ml) sz) := by
  refine Met.ofW (cc := cX5_explains) (maxL := 4) (ret := (some .int)) (by decide) rfl ?_
  intro p e s m args below meth c s₁ B hml hv
  obtain ⟨rfl, hsz, hP, hK, hD0, hN⟩ := hv
  have hx := B.exec
  have hb := B.bytes
  have hr := B.returns
  have hts := atoms_spec (ws := wsX5_explains) B.pre
  have hown : s.vm.findClass RX5 = some m.cls := findClass_of_methodNamed B.named
  have hlocks := B.notSynchronized
  subst hsz
  have hD := hD0.self (sz := s.heap.size)
  generalize hAe : va_A (W_X5 cI m0 m1 m2 m3 m4 m5 m6 m7 m8 m9 m10 m11 mr mc me mw mh mn mu ms mt md mz mi mk mo mj ml) s.heap.size = A at hD ⊢
  have hA : ∀ q : Nat, s.heap.size ≤ q → A q := fun q h => by rw [← hAe]; exact Or.inr h
  have hS : va_S A s.heap s.heap [] := va_S.rf
  have hl := lv_entry ([.ref m0, .int a1]) (n := 4) (Nat.le_of_ble_eq_true rfl)
  rw [lg_entry_eq]
  generalize (lg_sl ([.ref m0, .int a1]) ++ List.replicate (4 - (lg_sl ([.ref m0, .int a1])).length) Slot.unset).toArray = ls at hl ⊢
  have hl : lv_has ls 4 [(0, .ref m0), (1, .int a1)] := hl
  have he := f_X5_explains.eq_1 mu a1
  replace hp := Eq.mp (p_X5_explains.eq_1 ..) hp
  refine lv_iconst (v := 1) hx hb dX5_explains_0 (by decide) ?_
  refine lv_iload_n hx hb dX5_explains_1 rfl (lv_at hl 1 rfl) ?_
  refine lv_ishl hx hb dX5_explains_2 ?_
  refine lv_istore_n (lv' := [(2, .int (1 <<< (a1 &&& 31))), (0, .ref m0), (1, .int a1)]) hx hb dX5_explains_3 rfl hl (by decide) rfl (fun ls hl => ?_)
  refine lv_iconst (v := 0) hx hb dX5_explains_4 (by decide) ?_
  refine lv_istore_n (lv' := [(3, .int 0), (2, .int (1 <<< (a1 &&& 31))), (0, .ref m0), (1, .int a1)]) hx hb dX5_explains_5 rfl hl (by decide) rfl (fun ls hl => ?_)
  obtain ⟨⟨r1_v6_2, r1_v6_3⟩, hL1⟩ : ∃ z, z = f_X5_explains_L6 mu a1 15 (1 <<< (a1 &&& 31)) (0 : Int32) := ⟨_, rfl⟩
  rw [← hL1] at he
  try dsimp only at he
  have hpL1 := hp.1
  replace hp := hp.2 _ _ hL1.symm
  have kont1 : ∀ (x1_v6_2 : Int32) (x1_v6_3 : Int32), (r1_v6_2, r1_v6_3) = (x1_v6_2, x1_v6_3) → ∀ (H : Heap) (locs : List Loc), va_P D vwCl (W_X5 cI m0 m1 m2 m3 m4 m5 m6 m7 m8 m9 m10 m11 mr mc me mw mh mn mu ms mt md mz mi mk mo mj ml) H → va_D A (W_X5 cI m0 m1 m2 m3 m4 m5 m6 m7 m8 m9 m10 m11 mr mc me mw mh mn mu ms mt md mz mi mk mo mj ml) → va_S A s.heap H locs → ∀ ls : Array Slot, lv_has ls 4 [(2, .int x1_v6_2)] → W p l e (headSpec wsX5_explains rm_X5_explains).room s m ([.ref m0, .int a1] : List Value).toArray below meth c H locs 0 0 (MQ below (Q_X5_explains D cI m0 m1 m2 m3 m4 m5 m6 m7 m8 m9 m10 m11 mr mc me mw mh mn mu ms mt md mz mi mk mo mj ml a1 A) ([.ref m0, .int a1] : List Value).toArray s 0 0 A) (F0 m 41 ls []) := by
    intro x1_v6_2 x1_v6_3 hxe H locs hP hD hS ls hl
    simp only [Prod.mk.injEq] at hxe
    obtain ⟨rfl, rfl⟩ := hxe
    refine lv_iload_n hx hb dX5_explains_41 rfl (lv_at hl 0 rfl) ?_
    exact W.iret (v := r1_v6_2) hx hb hr (fun t ht hW => ⟨⟨r1_v6_2, (), rfl, he, by rw [ht]; exact hP, va_K.moved hW.alike hK, hD⟩, hS.F ht⟩) hS.2.2 dX5_explains_42
  have loop1 : ∀ (n : Nat) (v6_2 : Int32) (v6_3 : Int32), p_X5_explains_L6 mu a1 n v6_2 v6_3 → (r1_v6_2, r1_v6_3) = f_X5_explains_L6 mu a1 n v6_2 v6_3 → ∀ (H : Heap) (locs : List Loc), va_P D vwCl (W_X5 cI m0 m1 m2 m3 m4 m5 m6 m7 m8 m9 m10 m11 mr mc me mw mh mn mu ms mt md mz mi mk mo mj ml) H → va_D A (W_X5 cI m0 m1 m2 m3 m4 m5 m6 m7 m8 m9 m10 m11 mr mc me mw mh mn mu ms mt md mz mi mk mo mj ml) → va_S A s.heap H locs → ∀ ls : Array Slot, lv_has ls 4 [(3, .int v6_3), (2, .int v6_2), (0, .ref m0), (1, .int a1)] → W p l e (headSpec wsX5_explains rm_X5_explains).room s m ([.ref m0, .int a1] : List Value).toArray below meth c H locs 0 0 (MQ below (Q_X5_explains D cI m0 m1 m2 m3 m4 m5 m6 m7 m8 m9 m10 m11 mr mc me mw mh mn mu ms mt md mz mi mk mo mj ml a1 A) ([.ref m0, .int a1] : List Value).toArray s 0 0 A) (F0 m 6 ls []) := by
    intro n
    induction n with
    | zero => exact fun _ _ hp => hp.elim
    | succ n ih =>
      intro v6_2 v6_3 hp he H locs hP hD hS ls hl
      replace hp := Eq.mp (p_X5_explains_L6.eq_2 ..) hp
      replace he := he.trans (f_X5_explains_L6.eq_2 ..)
      refine lv_iload_n hx hb dX5_explains_6 rfl (lv_at hl 0 rfl) ?_
      refine lv_bipush (v := 14) hx hb dX5_explains_7 (by decide) ?_
      refine lv_icmp_ge (tgt := 41) hx hb dX5_explains_9 (by decide) (fun c2 => ?_) (fun c2 => ?_)
      · replace hp := hp.1 c2
        replace he := he.trans (if_pos c2)
        exact kont1 _ _ he _ _ hP hD hS _ (lv_sub hl [1] rfl)
      · replace hp := hp.2 c2
        replace he := he.trans (if_neg c2)
        refine lv_iload_n hx hb dX5_explains_12 rfl (lv_at hl 1 rfl) ?_
        refine lv_aload_n hx hb dX5_explains_13 rfl (lv_at hl 2 rfl) ?_
        refine va_get (D := D) (ci := 5) (v := .ref m2) (C := RX5) (T := TX5) (N := 16) hx hb hts (by decide +kernel) hown hK hP 0 rfl rfl 1 (by decide) (hts (.fieldLink RX5 13 "AlarmgroveModel" "under" "[I") (by decide +kernel)) (fun _ h9 => h9) rfl dX5_explains_14 ?_
        refine lv_iload_n hx hb dX5_explains_17 rfl (lv_at hl 0 rfl) ?_
        have h3 := hp.1
        replace hp := hp.2
        refine va_iald hx hb hK hP 2 0 rfl rfl h3 dX5_explains_18 ?_
        refine lv_iload_n hx hb dX5_explains_19 rfl (lv_at hl 3 rfl) ?_
        refine k_calli (S := Unit) (wc := ([] : va_W)) (wr := (W_X5 cI m0 m1 m2 m3 m4 m5 m6 m7 m8 m9 m10 m11 mr mc me mw mh mn mu ms mt md mz mi mk mo mj ml)) (w1 := fun u => ([] : va_W)) (fun u => (W_X5 cI m0 m1 m2 m3 m4 m5 m6 m7 m8 m9 m10 m11 mr mc me mw mh mn mu ms mt md mz mi mk mo mj ml)) hP hK hD hN hS hA [] [0, 1, 2, 3, 4, 5, 6, 7, 8, 9, 10, 11] rfl rfl (by decide) (by decide) (by decide) [0, 1, 2, 3, 4, 5, 6, 7, 8, 9, 10, 11] (by decide) (fun _ => rfl) (fun hg => va_runS (As := [.int (mu (v6_3).toNatClampNeg), .int a1]) (rest := [.int v6_2]) ⟨hx, hb, hml, hown, hts⟩ (c_X5_has l D cI _ (mu (v6_3).toNatClampNeg) a1) (va_cwS 2 hts gX5_explains_X5_has rfl rfl rfl (by decide +kernel) ⟨Nat.le_of_ble_eq_true rfl, Nat.le_of_ble_eq_true rfl⟩) ⟨PW.blind, fun U hU hW => ⟨rfl, hg U hU hW⟩⟩ rfl rfl hl.1 rfl (lv_room (Nat.le_of_ble_eq_true rfl)) dX5_explains_20 ⟨Nat.le_of_ble_eq_true rfl, Nat.le_of_ble_eq_true rfl⟩) (fun r4 u H locs hw hP hD hS => ?_)
        obtain ⟨hw, hb4⟩ := hw
        subst hw
        obtain ⟨j5, hJ5⟩ : ∃ z : Int32, z = (if (f_X5_has (mu (v6_3).toNatClampNeg) a1) = 0 then (0 : Int32) else (1 <<< (v6_3 &&& 31))) := ⟨_, rfl⟩
        rw [← hJ5] at he
        try dsimp only at he
        have hpJ5 := hp.1
        replace hp := hp.2 _  hJ5.symm
        have kont5 : ∀ (H : Heap) (locs : List Loc), va_P D vwCl (W_X5 cI m0 m1 m2 m3 m4 m5 m6 m7 m8 m9 m10 m11 mr mc me mw mh mn mu ms mt md mz mi mk mo mj ml) H → va_D A (W_X5 cI m0 m1 m2 m3 m4 m5 m6 m7 m8 m9 m10 m11 mr mc me mw mh mn mu ms mt md mz mi mk mo mj ml) → va_S A s.heap H locs → ∀ ls : Array Slot, lv_has ls 4 [(3, .int v6_3), (0, .ref m0), (1, .int a1)] → W p l e (headSpec wsX5_explains rm_X5_explains).room s m ([.ref m0, .int a1] : List Value).toArray below meth c H locs 0 0 (MQ below (Q_X5_explains D cI m0 m1 m2 m3 m4 m5 m6 m7 m8 m9 m10 m11 mr mc me mw mh mn mu ms mt md mz mi mk mo mj ml a1 A) ([.ref m0, .int a1] : List Value).toArray s 0 0 A) (F0 m 33 ls [.int j5, .int v6_2]) := by
          intro H locs hP hD hS ls hl
          refine lv_ior hx hb dX5_explains_33 ?_
          refine lv_istore_n (lv' := [(2, .int (v6_2 ||| j5)), (3, .int v6_3), (0, .ref m0), (1, .int a1)]) hx hb dX5_explains_34 rfl hl (by decide) rfl (fun ls hl => ?_)
          refine lv_iinc (v := (v6_3 + 1)) (lv' := [(3, .int (v6_3 + 1)), (2, .int (v6_2 ||| j5)), (0, .ref m0), (1, .int a1)]) hx hb dX5_explains_35 hl (k := 1) rfl rfl (by decide) rfl (fun ls hl => ?_)
          refine lv_goto (tgt := 6) hx hb dX5_explains_38 (by decide) ?_
          exact ih _ _ hp he _ _ hP hD hS _ (lv_sub hl [0, 1, 2, 3] rfl)
        replace he := hJ5
        replace hp := hpJ5
        refine lv_if_eq (tgt := 32) hx hb dX5_explains_23 (by decide) (fun c6 => ?_) (fun c6 => ?_)
        · replace hp := hp.1 c6
          replace he := he.trans (if_pos c6)
          refine lv_iconst (v := 0) hx hb dX5_explains_32 (by decide) ?_
          subst he
          exact kont5 _ _ hP hD hS _ (lv_sub hl [0, 2, 3] rfl)
        · replace hp := hp.2 c6
          replace he := he.trans (if_neg c6)
          refine lv_iconst (v := 1) hx hb dX5_explains_26 (by decide) ?_
          refine lv_iload_n hx hb dX5_explains_27 rfl (lv_at hl 0 rfl) ?_
          refine lv_ishl hx hb dX5_explains_28 ?_
          refine lv_goto (tgt := 33) hx hb dX5_explains_29 (by decide) ?_
          subst he
          exact kont5 _ _ hP hD hS _ (lv_sub hl [0, 2, 3] rfl)
  exact loop1 15 (1 <<< (a1 &&& 31)) (0 : Int32) hpL1 hL1 _ _ hP hD hS _ (lv_sub hl [0, 1, 2, 3] rfl)
abbrev rm_X5_explained : Room := { frames := 1, cells := 0, slots := 0, locals := 21 }
abbrev Q_X5_explained (D : va_G) (cI : ClassId) (m0 m1 m2 m3 m4 m5 m6 m7 m8 m9 m10 m11 : Nat) (mr : Int32) (mc : Int32) (me : Int32) (mw : Int32) (mh : Int32) (mn : AA) (mu : AA) (ms : AA) (mt : AA) (md : AA) (mz : AA) (mi : AA) (mk : AA) (mo : AA) (mj : AA) (ml : AA) (a1 : Int32) (A : Nat → Prop) : Array Value → State → Outcome → State → Prop := va_Qi (S := Unit) (fun r u => f_X5_explained mu a1 = r) (fun u t => QW D [(cI, .int)] A (W_X5 cI m0 m1 m2 m3 m4 m5 m6 m7 m8 m9 m10 m11 mr mc me mw mh mn mu ms mt md mz mi mk mo mj ml) t) A
set_option maxHeartbeats 4000000 in
set_option maxRecDepth 100000 in
theorem c_X5_explained (l : Launch)  (D : va_G) (cI : ClassId) (m0 m1 m2 m3 m4 m5 m6 m7 m8 m9 m10 m11 : Nat) (mr : Int32) (mc : Int32) (me : Int32) (mw : Int32) (mh : Int32) (mn : AA) (mu : AA) (ms : AA) (mt : AA) (md : AA) (mz : AA) (mi : AA) (mk : AA) (mo : AA) (mj : AA) (ml : AA) (sz : Nat) (a1 : Int32) (hp : p_X5_explained mu a1) : Met l yX5_explained wsX5_explained rm_X5_explained (va_Pc [.ref m0, .int a1] (PW D [(cI, .int)] sz (W_X5 cI m0 m1 m2 m3 m4 m5 m6 m7 m8 m9 m10 m11 mr mc me mw mh mn mu ms mt md mz mi mk mo mj ml))) (Q_X5_explained D cI m0 m1 m2 m3 m4 m5 m6 m7 m8 m9 m10 m11 mr mc me mw mh mn mu ms mt md mz mi mk mo mj ml a1 (va_A (W_X5 cI m0 m1 m2 m3 m4 m5 m6 m7 m8 m9 m10 m11 mr mc me mw mh mn mu ms mt md mz mi mk mo mj ml) sz)) 0 0 (va_A (W_X5 cI m0 m1 m2 m3 m4 m5 m6 m7 m8 m9 m10 m11 mr mc me mw mh mn mu ms mt md mz mi mk mo mj ml) sz) := by
  refine Met.ofW (cc := cX5_explained) (maxL := 5) (ret := (some .int)) (by decide) rfl ?_
  intro p e s m args below meth c s₁ B hml hv
  obtain ⟨rfl, hsz, hP, hK, hD0, hN⟩ := hv
  have hx := B.exec
  have hb := B.bytes
  have hr := B.returns
  have hts := atoms_spec (ws := wsX5_explained) B.pre
  have hown : s.vm.findClass RX5 = some m.cls := findClass_of_methodNamed B.named
  have hlocks := B.notSynchronized
  subst hsz
  have hD := hD0.self (sz := s.heap.size)
  generalize hAe : va_A (W_X5 cI m0 m1 m2 m3 m4 m5 m6 m7 m8 m9 m10 m11 mr mc me mw mh mn mu ms mt md mz mi mk mo mj ml) s.heap.size = A at hD ⊢
  have hA : ∀ q : Nat, s.heap.size ≤ q → A q := fun q h => by rw [← hAe]; exact Or.inr h
  have hS : va_S A s.heap s.heap [] := va_S.rf
  have hl := lv_entry ([.ref m0, .int a1]) (n := 5) (Nat.le_of_ble_eq_true rfl)
  rw [lg_entry_eq]
  generalize (lg_sl ([.ref m0, .int a1]) ++ List.replicate (5 - (lg_sl ([.ref m0, .int a1])).length) Slot.unset).toArray = ls at hl ⊢
  have hl : lv_has ls 5 [(0, .ref m0), (1, .int a1)] := hl
  have he := f_X5_explained.eq_1 mu a1
  replace hp := Eq.mp (p_X5_explained.eq_1 ..) hp
  refine lv_iconst (v := 0) hx hb dX5_explained_0 (by decide) ?_
  refine lv_istore_n (lv' := [(2, .int 0), (0, .ref m0), (1, .int a1)]) hx hb dX5_explained_1 rfl hl (by decide) rfl (fun ls hl => ?_)
  refine lv_iconst (v := 0) hx hb dX5_explained_2 (by decide) ?_
  refine lv_istore_n (lv' := [(3, .int 0), (2, .int 0), (0, .ref m0), (1, .int a1)]) hx hb dX5_explained_3 rfl hl (by decide) rfl (fun ls hl => ?_)
  obtain ⟨⟨r1_v4_2, r1_v4_3⟩, hL1⟩ : ∃ z, z = f_X5_explained_L4 mu a1 15 (0 : Int32) (0 : Int32) := ⟨_, rfl⟩
  rw [← hL1] at he
  try dsimp only at he
  have hpL1 := hp.1
  replace hp := hp.2 _ _ hL1.symm
  have kont1 : ∀ (x1_v4_2 : Int32) (x1_v4_3 : Int32), (r1_v4_2, r1_v4_3) = (x1_v4_2, x1_v4_3) → ∀ (H : Heap) (locs : List Loc), va_P D vwCl (W_X5 cI m0 m1 m2 m3 m4 m5 m6 m7 m8 m9 m10 m11 mr mc me mw mh mn mu ms mt md mz mi mk mo mj ml) H → va_D A (W_X5 cI m0 m1 m2 m3 m4 m5 m6 m7 m8 m9 m10 m11 mr mc me mw mh mn mu ms mt md mz mi mk mo mj ml) → va_S A s.heap H locs → ∀ ls : Array Slot, lv_has ls 5 [(2, .int x1_v4_2)] → W p l e (headSpec wsX5_explained rm_X5_explained).room s m ([.ref m0, .int a1] : List Value).toArray below meth c H locs 0 0 (MQ below (Q_X5_explained D cI m0 m1 m2 m3 m4 m5 m6 m7 m8 m9 m10 m11 mr mc me mw mh mn mu ms mt md mz mi mk mo mj ml a1 A) ([.ref m0, .int a1] : List Value).toArray s 0 0 A) (F0 m 71 ls []) := by
    intro x1_v4_2 x1_v4_3 hxe H locs hP hD hS ls hl
    simp only [Prod.mk.injEq] at hxe
    obtain ⟨rfl, rfl⟩ := hxe
    refine lv_iload_n hx hb dX5_explained_71 rfl (lv_at hl 0 rfl) ?_
    exact W.iret (v := r1_v4_2) hx hb hr (fun t ht hW => ⟨⟨r1_v4_2, (), rfl, he, by rw [ht]; exact hP, va_K.moved hW.alike hK, hD⟩, hS.F ht⟩) hS.2.2 dX5_explained_72
  have loop1 : ∀ (n : Nat) (v4_2 : Int32) (v4_3 : Int32), p_X5_explained_L4 mu a1 n v4_2 v4_3 → (r1_v4_2, r1_v4_3) = f_X5_explained_L4 mu a1 n v4_2 v4_3 → ∀ (H : Heap) (locs : List Loc), va_P D vwCl (W_X5 cI m0 m1 m2 m3 m4 m5 m6 m7 m8 m9 m10 m11 mr mc me mw mh mn mu ms mt md mz mi mk mo mj ml) H → va_D A (W_X5 cI m0 m1 m2 m3 m4 m5 m6 m7 m8 m9 m10 m11 mr mc me mw mh mn mu ms mt md mz mi mk mo mj ml) → va_S A s.heap H locs → ∀ ls : Array Slot, lv_has ls 5 [(3, .int v4_3), (2, .int v4_2), (0, .ref m0), (1, .int a1)] → W p l e (headSpec wsX5_explained rm_X5_explained).room s m ([.ref m0, .int a1] : List Value).toArray below meth c H locs 0 0 (MQ below (Q_X5_explained D cI m0 m1 m2 m3 m4 m5 m6 m7 m8 m9 m10 m11 mr mc me mw mh mn mu ms mt md mz mi mk mo mj ml a1 A) ([.ref m0, .int a1] : List Value).toArray s 0 0 A) (F0 m 4 ls []) := by
    intro n
    induction n with
    | zero => exact fun _ _ hp => hp.elim
    | succ n ih =>
      intro v4_2 v4_3 hp he H locs hP hD hS ls hl
      replace hp := Eq.mp (p_X5_explained_L4.eq_2 ..) hp
      replace he := he.trans (f_X5_explained_L4.eq_2 ..)
      refine lv_iload_n hx hb dX5_explained_4 rfl (lv_at hl 0 rfl) ?_
      refine lv_bipush (v := 14) hx hb dX5_explained_5 (by decide) ?_
      refine lv_icmp_ge (tgt := 71) hx hb dX5_explained_7 (by decide) (fun c2 => ?_) (fun c2 => ?_)
      · replace hp := hp.1 c2
        replace he := he.trans (if_pos c2)
        exact kont1 _ _ he _ _ hP hD hS _ (lv_sub hl [1] rfl)
      · replace hp := hp.2 c2
        replace he := he.trans (if_neg c2)
        refine lv_iconst (v := 0) hx hb dX5_explained_10 (by decide) ?_
        refine lv_istore (lv' := [(4, .int 0), (3, .int v4_3), (2, .int v4_2), (0, .ref m0), (1, .int a1)]) hx hb dX5_explained_11 hl (by decide) rfl (fun ls hl => ?_)
        obtain ⟨⟨r3_v13_2, r3_v13_4⟩, hL3⟩ : ∃ z, z = f_X5_explained_L13 mu a1 v4_3 15 v4_2 (0 : Int32) := ⟨_, rfl⟩
        rw [← hL3] at he
        try dsimp only at he
        have hpL3 := hp.1
        replace hp := hp.2 _ _ hL3.symm
        have kont3 : ∀ (x3_v13_2 : Int32) (x3_v13_4 : Int32), (r3_v13_2, r3_v13_4) = (x3_v13_2, x3_v13_4) → ∀ (H : Heap) (locs : List Loc), va_P D vwCl (W_X5 cI m0 m1 m2 m3 m4 m5 m6 m7 m8 m9 m10 m11 mr mc me mw mh mn mu ms mt md mz mi mk mo mj ml) H → va_D A (W_X5 cI m0 m1 m2 m3 m4 m5 m6 m7 m8 m9 m10 m11 mr mc me mw mh mn mu ms mt md mz mi mk mo mj ml) → va_S A s.heap H locs → ∀ ls : Array Slot, lv_has ls 5 [(3, .int v4_3), (2, .int x3_v13_2), (0, .ref m0), (1, .int a1)] → W p l e (headSpec wsX5_explained rm_X5_explained).room s m ([.ref m0, .int a1] : List Value).toArray below meth c H locs 0 0 (MQ below (Q_X5_explained D cI m0 m1 m2 m3 m4 m5 m6 m7 m8 m9 m10 m11 mr mc me mw mh mn mu ms mt md mz mi mk mo mj ml a1 A) ([.ref m0, .int a1] : List Value).toArray s 0 0 A) (F0 m 65 ls []) := by
          intro x3_v13_2 x3_v13_4 hxe H locs hP hD hS ls hl
          simp only [Prod.mk.injEq] at hxe
          obtain ⟨rfl, rfl⟩ := hxe
          refine lv_iinc (v := (v4_3 + 1)) (lv' := [(3, .int (v4_3 + 1)), (2, .int r3_v13_2), (0, .ref m0), (1, .int a1)]) hx hb dX5_explained_65 hl (k := 0) rfl rfl (by decide) rfl (fun ls hl => ?_)
          refine lv_goto (tgt := 4) hx hb dX5_explained_68 (by decide) ?_
          exact ih _ _ hp he _ _ hP hD hS _ (lv_sub hl [0, 1, 2, 3] rfl)
        have loop3 : ∀ (n : Nat) (v13_2 : Int32) (v13_4 : Int32), p_X5_explained_L13 mu a1 v4_3 n v13_2 v13_4 → (r3_v13_2, r3_v13_4) = f_X5_explained_L13 mu a1 v4_3 n v13_2 v13_4 → ∀ (H : Heap) (locs : List Loc), va_P D vwCl (W_X5 cI m0 m1 m2 m3 m4 m5 m6 m7 m8 m9 m10 m11 mr mc me mw mh mn mu ms mt md mz mi mk mo mj ml) H → va_D A (W_X5 cI m0 m1 m2 m3 m4 m5 m6 m7 m8 m9 m10 m11 mr mc me mw mh mn mu ms mt md mz mi mk mo mj ml) → va_S A s.heap H locs → ∀ ls : Array Slot, lv_has ls 5 [(4, .int v13_4), (3, .int v4_3), (2, .int v13_2), (0, .ref m0), (1, .int a1)] → W p l e (headSpec wsX5_explained rm_X5_explained).room s m ([.ref m0, .int a1] : List Value).toArray below meth c H locs 0 0 (MQ below (Q_X5_explained D cI m0 m1 m2 m3 m4 m5 m6 m7 m8 m9 m10 m11 mr mc me mw mh mn mu ms mt md mz mi mk mo mj ml a1 A) ([.ref m0, .int a1] : List Value).toArray s 0 0 A) (F0 m 13 ls []) := by
          intro n
          induction n with
          | zero => exact fun _ _ hp => hp.elim
          | succ n ih =>
            intro v13_2 v13_4 hp he H locs hP hD hS ls hl
            replace hp := Eq.mp (p_X5_explained_L13.eq_2 ..) hp
            replace he := he.trans (f_X5_explained_L13.eq_2 ..)
            refine lv_iload hx hb dX5_explained_13 (lv_at hl 0 rfl) ?_
            refine lv_bipush (v := 14) hx hb dX5_explained_15 (by decide) ?_
            refine lv_icmp_ge (tgt := 65) hx hb dX5_explained_17 (by decide) (fun c4 => ?_) (fun c4 => ?_)
            · replace hp := hp.1 c4
              replace he := he.trans (if_pos c4)
              exact kont3 _ _ he _ _ hP hD hS _ (lv_sub hl [1, 2, 3, 4] rfl)
            · replace hp := hp.2 c4
              replace he := he.trans (if_neg c4)
              refine lv_iload_n hx hb dX5_explained_20 rfl (lv_at hl 2 rfl) ?_
              refine lv_iload_n hx hb dX5_explained_21 rfl (lv_at hl 4 rfl) ?_
              refine lv_iload hx hb dX5_explained_22 (lv_at hl 0 rfl) ?_
              refine k_calli (S := Unit) (wc := ([] : va_W)) (wr := (W_X5 cI m0 m1 m2 m3 m4 m5 m6 m7 m8 m9 m10 m11 mr mc me mw mh mn mu ms mt md mz mi mk mo mj ml)) (w1 := fun u => ([] : va_W)) (fun u => (W_X5 cI m0 m1 m2 m3 m4 m5 m6 m7 m8 m9 m10 m11 mr mc me mw mh mn mu ms mt md mz mi mk mo mj ml)) hP hK hD hN hS hA [] [0, 1, 2, 3, 4, 5, 6, 7, 8, 9, 10, 11] rfl rfl (by decide) (by decide) (by decide) [0, 1, 2, 3, 4, 5, 6, 7, 8, 9, 10, 11] (by decide) (fun _ => rfl) (fun hg => va_runS (As := [.int a1, .int v13_4]) (rest := [.int v13_2]) ⟨hx, hb, hml, hown, hts⟩ (c_X5_has l D cI _ a1 v13_4) (va_cwS 2 hts gX5_explained_X5_has rfl rfl rfl (by decide +kernel) ⟨Nat.le_of_ble_eq_true rfl, Nat.le_of_ble_eq_true rfl⟩) ⟨PW.blind, fun U hU hW => ⟨rfl, hg U hU hW⟩⟩ rfl rfl hl.1 rfl (lv_room (Nat.le_of_ble_eq_true rfl)) dX5_explained_24 ⟨Nat.le_of_ble_eq_true rfl, Nat.le_of_ble_eq_true rfl⟩) (fun r5 u H locs hw hP hD hS => ?_)
              obtain ⟨hw, hb5⟩ := hw
              subst hw
              obtain ⟨j6, hJ6⟩ : ∃ z : Int32, z = (if (f_X5_has a1 v13_4) = 0 then (0 : Int32) else (if v4_3 = v13_4 then (1 <<< (v4_3 &&& 31)) else (if (f_X5_has (mu (v4_3).toNatClampNeg) v13_4) = 0 then (0 : Int32) else (1 <<< (v4_3 &&& 31))))) := ⟨_, rfl⟩
              rw [← hJ6] at he
              try dsimp only at he
              have hpJ6 := hp.1
              replace hp := hp.2 _  hJ6.symm
              have kont6 : ∀ (H : Heap) (locs : List Loc), va_P D vwCl (W_X5 cI m0 m1 m2 m3 m4 m5 m6 m7 m8 m9 m10 m11 mr mc me mw mh mn mu ms mt md mz mi mk mo mj ml) H → va_D A (W_X5 cI m0 m1 m2 m3 m4 m5 m6 m7 m8 m9 m10 m11 mr mc me mw mh mn mu ms mt md mz mi mk mo mj ml) → va_S A s.heap H locs → ∀ ls : Array Slot, lv_has ls 5 [(4, .int v13_4), (3, .int v4_3), (0, .ref m0), (1, .int a1)] → W p l e (headSpec wsX5_explained rm_X5_explained).room s m ([.ref m0, .int a1] : List Value).toArray below meth c H locs 0 0 (MQ below (Q_X5_explained D cI m0 m1 m2 m3 m4 m5 m6 m7 m8 m9 m10 m11 mr mc me mw mh mn mu ms mt md mz mi mk mo mj ml a1 A) ([.ref m0, .int a1] : List Value).toArray s 0 0 A) (F0 m 57 ls [.int j6, .int v13_2]) := by
                intro H locs hP hD hS ls hl
                refine lv_ior hx hb dX5_explained_57 ?_
                refine lv_istore_n (lv' := [(2, .int (v13_2 ||| j6)), (4, .int v13_4), (3, .int v4_3), (0, .ref m0), (1, .int a1)]) hx hb dX5_explained_58 rfl hl (by decide) rfl (fun ls hl => ?_)
                refine lv_iinc (v := (v13_4 + 1)) (lv' := [(4, .int (v13_4 + 1)), (2, .int (v13_2 ||| j6)), (3, .int v4_3), (0, .ref m0), (1, .int a1)]) hx hb dX5_explained_59 hl (k := 1) rfl rfl (by decide) rfl (fun ls hl => ?_)
                refine lv_goto (tgt := 13) hx hb dX5_explained_62 (by decide) ?_
                exact ih _ _ hp he _ _ hP hD hS _ (lv_sub hl [0, 2, 1, 3, 4] rfl)
              replace he := hJ6
              replace hp := hpJ6
              refine lv_if_eq (tgt := 56) hx hb dX5_explained_27 (by decide) (fun c7 => ?_) (fun c7 => ?_)
              · replace hp := hp.1 c7
                replace he := he.trans (if_pos c7)
                refine lv_iconst (v := 0) hx hb dX5_explained_56 (by decide) ?_
                subst he
                exact kont6 _ _ hP hD hS _ (lv_sub hl [0, 1, 3, 4] rfl)
              · replace hp := hp.2 c7
                replace he := he.trans (if_neg c7)
                refine lv_iload_n hx hb dX5_explained_30 rfl (lv_at hl 1 rfl) ?_
                refine lv_iload hx hb dX5_explained_31 (lv_at hl 0 rfl) ?_
                refine lv_icmp_eq (tgt := 50) hx hb dX5_explained_33 (by decide) (fun c8 => ?_) (fun c8 => ?_)
                · replace hp := hp.1 c8
                  replace he := he.trans (if_pos c8)
                  refine lv_iconst (v := 1) hx hb dX5_explained_50 (by decide) ?_
                  refine lv_iload_n hx hb dX5_explained_51 rfl (lv_at hl 1 rfl) ?_
                  refine lv_ishl hx hb dX5_explained_52 ?_
                  refine lv_goto (tgt := 57) hx hb dX5_explained_53 (by decide) ?_
                  subst he
                  exact kont6 _ _ hP hD hS _ (lv_sub hl [0, 1, 3, 4] rfl)
                · replace hp := hp.2 c8
                  replace he := he.trans (if_neg c8)
                  refine lv_aload_n hx hb dX5_explained_36 rfl (lv_at hl 3 rfl) ?_
                  refine va_get (D := D) (ci := 5) (v := .ref m2) (C := RX5) (T := TX5) (N := 16) hx hb hts (by decide +kernel) hown hK hP 0 rfl rfl 1 (by decide) (hts (.fieldLink RX5 13 "AlarmgroveModel" "under" "[I") (by decide +kernel)) (fun _ h9 => h9) rfl dX5_explained_37 ?_
                  refine lv_iload_n hx hb dX5_explained_40 rfl (lv_at hl 1 rfl) ?_
                  have h9 := hp.1
                  replace hp := hp.2
                  refine va_iald hx hb hK hP 2 0 rfl rfl h9 dX5_explained_41 ?_
                  refine lv_iload hx hb dX5_explained_42 (lv_at hl 0 rfl) ?_
                  refine k_calli (S := Unit) (wc := ([] : va_W)) (wr := (W_X5 cI m0 m1 m2 m3 m4 m5 m6 m7 m8 m9 m10 m11 mr mc me mw mh mn mu ms mt md mz mi mk mo mj ml)) (w1 := fun u => ([] : va_W)) (fun u => (W_X5 cI m0 m1 m2 m3 m4 m5 m6 m7 m8 m9 m10 m11 mr mc me mw mh mn mu ms mt md mz mi mk mo mj ml)) hP hK hD hN hS hA [] [0, 1, 2, 3, 4, 5, 6, 7, 8, 9, 10, 11] rfl rfl (by decide) (by decide) (by decide) [0, 1, 2, 3, 4, 5, 6, 7, 8, 9, 10, 11] (by decide) (fun _ => rfl) (fun hg => va_runS (As := [.int (mu (v4_3).toNatClampNeg), .int v13_4]) (rest := [.int v13_2]) ⟨hx, hb, hml, hown, hts⟩ (c_X5_has l D cI _ (mu (v4_3).toNatClampNeg) v13_4) (va_cwS 2 hts gX5_explained_X5_has rfl rfl rfl (by decide +kernel) ⟨Nat.le_of_ble_eq_true rfl, Nat.le_of_ble_eq_true rfl⟩) ⟨PW.blind, fun U hU hW => ⟨rfl, hg U hU hW⟩⟩ rfl rfl hl.1 rfl (lv_room (Nat.le_of_ble_eq_true rfl)) dX5_explained_44 ⟨Nat.le_of_ble_eq_true rfl, Nat.le_of_ble_eq_true rfl⟩) (fun r10 u H locs hw hP hD hS => ?_)
                  obtain ⟨hw, hb10⟩ := hw
                  subst hw
                  refine lv_if_eq (tgt := 56) hx hb dX5_explained_47 (by decide) (fun c11 => ?_) (fun c11 => ?_)
                  · replace hp := hp.1 c11
                    replace he := he.trans (if_pos c11)
                    refine lv_iconst (v := 0) hx hb dX5_explained_56 (by decide) ?_
                    subst he
                    exact kont6 _ _ hP hD hS _ (lv_sub hl [0, 1, 3, 4] rfl)
                  · replace hp := hp.2 c11
                    replace he := he.trans (if_neg c11)
                    refine lv_iconst (v := 1) hx hb dX5_explained_50 (by decide) ?_
                    refine lv_iload_n hx hb dX5_explained_51 rfl (lv_at hl 1 rfl) ?_
                    refine lv_ishl hx hb dX5_explained_52 ?_
                    refine lv_goto (tgt := 57) hx hb dX5_explained_53 (by decide) ?_
                    subst he
                    exact kont6 _ _ hP hD hS _ (lv_sub hl [0, 1, 3, 4] rfl)
        exact loop3 15 v4_2 (0 : Int32) hpL3 hL3 _ _ hP hD hS _ (lv_sub hl [0, 1, 2, 3, 4] rfl)
  exact loop1 15 (0 : Int32) (0 : Int32) hpL1 hL1 _ _ hP hD hS _ (lv_sub hl [0, 1, 2, 3] rfl)
abbrev rm_X5_isBetter : Room := { frames := 1, cells := 0, slots := 0, locals := 22 }
abbrev Q_X5_isBetter (D : va_G) (cI : ClassId) (m0 m1 m2 m3 m4 m5 m6 m7 m8 m9 m10 m11 : Nat) (mr : Int32) (mc : Int32) (me : Int32) (mw : Int32) (mh : Int32) (mn : AA) (mu : AA) (ms : AA) (mt : AA) (md : AA) (mz : AA) (mi : AA) (mk : AA) (mo : AA) (mj : AA) (ml : AA) (a1 a2 : Int32) (A : Nat → Prop) : Array Value → State → Outcome → State → Prop := va_Qi (S := Unit) (fun r u => f_X5_isBetter mr a1 a2 = r ∧ (r = 0 ∨ r = 1)) (fun u t => QW D [(cI, .int)] A (W_X5 cI m0 m1 m2 m3 m4 m5 m6 m7 m8 m9 m10 m11 mr mc me mw mh mn mu ms mt md mz mi mk mo mj ml) t) A
set_option maxHeartbeats 4000000 in
set_option maxRecDepth 100000 in
theorem c_X5_isBetter (l : Launch)  (D : va_G) (cI : ClassId) (m0 m1 m2 m3 m4 m5 m6 m7 m8 m9 m10 m11 : Nat) (mr : Int32) (mc : Int32) (me : Int32) (mw : Int32) (mh : Int32) (mn : AA) (mu : AA) (ms : AA) (mt : AA) (md : AA) (mz : AA) (mi : AA) (mk : AA) (mo : AA) (mj : AA) (ml : AA) (sz : Nat) (a1 a2 : Int32) (hp : p_X5_isBetter mr a1 a2) : Met l yX5_isBetter wsX5_isBetter rm_X5_isBetter (va_Pc [.ref m0, .int a1, .int a2] (PW D [(cI, .int)] sz (W_X5 cI m0 m1 m2 m3 m4 m5 m6 m7 m8 m9 m10 m11 mr mc me mw mh mn mu ms mt md mz mi mk mo mj ml))) (Q_X5_isBetter D cI m0 m1 m2 m3 m4 m5 m6 m7 m8 m9 m10 m11 mr mc me mw mh mn mu ms mt md mz mi mk mo mj ml a1 a2 (va_A (W_X5 cI m0 m1 m2 m3 m4 m5 m6 m7 m8 m9 m10 m11 mr mc me mw mh mn mu ms mt md mz mi mk mo mj ml) sz)) 0 0 (va_A (W_X5 cI m0 m1 m2 m3 m4 m5 m6 m7 m8 m9 m10 m11 mr mc me mw mh mn mu ms mt md mz mi mk mo mj ml) sz) := by
  refine Met.ofW (cc := cX5_isBetter) (maxL := 5) (ret := (some .boolean)) (by decide) rfl ?_
  intro p e s m args below meth c s₁ B hml hv
  obtain ⟨rfl, hsz, hP, hK, hD0, hN⟩ := hv
  have hx := B.exec
  have hb := B.bytes
  have hr := B.returns
  have hts := atoms_spec (ws := wsX5_isBetter) B.pre
  have hown : s.vm.findClass RX5 = some m.cls := findClass_of_methodNamed B.named
  have hlocks := B.notSynchronized
  subst hsz
  have hD := hD0.self (sz := s.heap.size)
  generalize hAe : va_A (W_X5 cI m0 m1 m2 m3 m4 m5 m6 m7 m8 m9 m10 m11 mr mc me mw mh mn mu ms mt md mz mi mk mo mj ml) s.heap.size = A at hD ⊢
  have hA : ∀ q : Nat, s.heap.size ≤ q → A q := fun q h => by rw [← hAe]; exact Or.inr h
  have hS : va_S A s.heap s.heap [] := va_S.rf
  have hl := lv_entry ([.ref m0, .int a1, .int a2]) (n := 5) (Nat.le_of_ble_eq_true rfl)
  rw [lg_entry_eq]
  generalize (lg_sl ([.ref m0, .int a1, .int a2]) ++ List.replicate (5 - (lg_sl ([.ref m0, .int a1, .int a2])).length) Slot.unset).toArray = ls at hl ⊢
  have hl : lv_has ls 5 [(0, .ref m0), (1, .int a1), (2, .int a2)] := hl
  have he := f_X5_isBetter.eq_1 mr a1 a2
  replace hp := Eq.mp (p_X5_isBetter.eq_1 ..) hp
  refine lv_iload_n hx hb dX5_isBetter_0 rfl (lv_at hl 1 rfl) ?_
  refine lv_iload_n hx hb dX5_isBetter_1 rfl (lv_at hl 2 rfl) ?_
  refine lv_ixor hx hb dX5_isBetter_2 ?_
  refine lv_istore_n (lv' := [(3, .int (a1 ^^^ a2)), (0, .ref m0), (1, .int a1), (2, .int a2)]) hx hb dX5_isBetter_3 rfl hl (by decide) rfl (fun ls hl => ?_)
  refine lv_iload_n hx hb dX5_isBetter_4 rfl (lv_at hl 0 rfl) ?_
  refine lv_iload_n hx hb dX5_isBetter_5 rfl (lv_at hl 0 rfl) ?_
  refine lv_ineg hx hb dX5_isBetter_6 ?_
  refine lv_iand hx hb dX5_isBetter_7 ?_
  refine lv_istore (lv' := [(4, .int ((a1 ^^^ a2) &&& (-(a1 ^^^ a2)))), (3, .int (a1 ^^^ a2)), (0, .ref m0), (1, .int a1), (2, .int a2)]) hx hb dX5_isBetter_8 hl (by decide) rfl (fun ls hl => ?_)
  refine lv_iload_n hx hb dX5_isBetter_10 rfl (lv_at hl 3 rfl) ?_
  have hq1 := hp.1
  replace hp := hp.2
  refine k_calli (S := Unit) (wc := ([] : va_W)) (wr := (W_X5 cI m0 m1 m2 m3 m4 m5 m6 m7 m8 m9 m10 m11 mr mc me mw mh mn mu ms mt md mz mi mk mo mj ml)) (w1 := fun u => ([] : va_W)) (fun u => (W_X5 cI m0 m1 m2 m3 m4 m5 m6 m7 m8 m9 m10 m11 mr mc me mw mh mn mu ms mt md mz mi mk mo mj ml)) hP hK hD hN hS hA [] [0, 1, 2, 3, 4, 5, 6, 7, 8, 9, 10, 11] rfl rfl (by decide) (by decide) (by decide) [0, 1, 2, 3, 4, 5, 6, 7, 8, 9, 10, 11] (by decide) (fun _ => rfl) (fun hg => va_runS (As := [.int a1]) (rest := []) ⟨hx, hb, hml, hown, hts⟩ (c_X5_count l D cI _ a1 hq1) (va_cwS 1 hts gX5_isBetter_X5_count rfl rfl rfl (by decide +kernel) ⟨Nat.le_of_ble_eq_true rfl, Nat.le_of_ble_eq_true rfl⟩) ⟨PW.blind, fun U hU hW => ⟨rfl, hg U hU hW⟩⟩ rfl rfl hl.1 rfl (lv_room (Nat.le_of_ble_eq_true rfl)) dX5_isBetter_11 ⟨Nat.le_of_ble_eq_true rfl, Nat.le_of_ble_eq_true rfl⟩) (fun r1 u H locs hw hP hD hS => ?_)
  subst hw
  refine lv_iload_n hx hb dX5_isBetter_14 rfl (lv_at hl 4 rfl) ?_
  have hq2 := hp.1
  replace hp := hp.2
  refine k_calli (S := Unit) (wc := ([] : va_W)) (wr := (W_X5 cI m0 m1 m2 m3 m4 m5 m6 m7 m8 m9 m10 m11 mr mc me mw mh mn mu ms mt md mz mi mk mo mj ml)) (w1 := fun u => ([] : va_W)) (fun u => (W_X5 cI m0 m1 m2 m3 m4 m5 m6 m7 m8 m9 m10 m11 mr mc me mw mh mn mu ms mt md mz mi mk mo mj ml)) hP hK hD hN hS hA [] [0, 1, 2, 3, 4, 5, 6, 7, 8, 9, 10, 11] rfl rfl (by decide) (by decide) (by decide) [0, 1, 2, 3, 4, 5, 6, 7, 8, 9, 10, 11] (by decide) (fun _ => rfl) (fun hg => va_runS (As := [.int a2]) (rest := [.int (f_X5_count a1)]) ⟨hx, hb, hml, hown, hts⟩ (c_X5_count l D cI _ a2 hq2) (va_cwS 1 hts gX5_isBetter_X5_count rfl rfl rfl (by decide +kernel) ⟨Nat.le_of_ble_eq_true rfl, Nat.le_of_ble_eq_true rfl⟩) ⟨PW.blind, fun U hU hW => ⟨rfl, hg U hU hW⟩⟩ rfl rfl hl.1 rfl (lv_room (Nat.le_of_ble_eq_true rfl)) dX5_isBetter_15 ⟨Nat.le_of_ble_eq_true rfl, Nat.le_of_ble_eq_true rfl⟩) (fun r2 u H locs hw hP hD hS => ?_)
  subst hw
  refine lv_icmp_eq (tgt := 38) hx hb dX5_isBetter_18 (by decide) (fun c3 => ?_) (fun c3 => ?_)
  · replace hp := hp.1 c3
    replace he := he.trans (if_pos c3)
    refine lv_iload_n hx hb dX5_isBetter_38 rfl (lv_at hl 3 rfl) ?_
    refine lv_aload_n hx hb dX5_isBetter_39 rfl (lv_at hl 2 rfl) ?_
    refine va_get (D := D) (ci := 5) (v := .int mr) (C := RX5) (T := TX5) (N := 16) hx hb hts (by decide +kernel) hown hK hP 0 rfl rfl 2 (by decide) (hts (.fieldLink RX5 68 "AlarmgroveModel" "raised" "I") (by decide +kernel)) (fun _ h9 => h9) rfl dX5_isBetter_40 ?_
    refine lv_iand hx hb dX5_isBetter_43 ?_
    have hq4 := hp.1
    replace hp := hp.2
    refine k_calli (S := Unit) (wc := ([] : va_W)) (wr := (W_X5 cI m0 m1 m2 m3 m4 m5 m6 m7 m8 m9 m10 m11 mr mc me mw mh mn mu ms mt md mz mi mk mo mj ml)) (w1 := fun u => ([] : va_W)) (fun u => (W_X5 cI m0 m1 m2 m3 m4 m5 m6 m7 m8 m9 m10 m11 mr mc me mw mh mn mu ms mt md mz mi mk mo mj ml)) hP hK hD hN hS hA [] [0, 1, 2, 3, 4, 5, 6, 7, 8, 9, 10, 11] rfl rfl (by decide) (by decide) (by decide) [0, 1, 2, 3, 4, 5, 6, 7, 8, 9, 10, 11] (by decide) (fun _ => rfl) (fun hg => va_runS (As := [.int (a1 &&& mr)]) (rest := []) ⟨hx, hb, hml, hown, hts⟩ (c_X5_count l D cI _ (a1 &&& mr) hq4) (va_cwS 1 hts gX5_isBetter_X5_count rfl rfl rfl (by decide +kernel) ⟨Nat.le_of_ble_eq_true rfl, Nat.le_of_ble_eq_true rfl⟩) ⟨PW.blind, fun U hU hW => ⟨rfl, hg U hU hW⟩⟩ rfl rfl hl.1 rfl (lv_room (Nat.le_of_ble_eq_true rfl)) dX5_isBetter_44 ⟨Nat.le_of_ble_eq_true rfl, Nat.le_of_ble_eq_true rfl⟩) (fun r4 u H locs hw hP hD hS => ?_)
    subst hw
    refine lv_iload_n hx hb dX5_isBetter_47 rfl (lv_at hl 4 rfl) ?_
    refine lv_aload_n hx hb dX5_isBetter_48 rfl (lv_at hl 2 rfl) ?_
    refine va_get (D := D) (ci := 5) (v := .int mr) (C := RX5) (T := TX5) (N := 16) hx hb hts (by decide +kernel) hown hK hP 0 rfl rfl 2 (by decide) (hts (.fieldLink RX5 68 "AlarmgroveModel" "raised" "I") (by decide +kernel)) (fun _ h9 => h9) rfl dX5_isBetter_49 ?_
    refine lv_iand hx hb dX5_isBetter_52 ?_
    have hq5 := hp.1
    replace hp := hp.2
    refine k_calli (S := Unit) (wc := ([] : va_W)) (wr := (W_X5 cI m0 m1 m2 m3 m4 m5 m6 m7 m8 m9 m10 m11 mr mc me mw mh mn mu ms mt md mz mi mk mo mj ml)) (w1 := fun u => ([] : va_W)) (fun u => (W_X5 cI m0 m1 m2 m3 m4 m5 m6 m7 m8 m9 m10 m11 mr mc me mw mh mn mu ms mt md mz mi mk mo mj ml)) hP hK hD hN hS hA [] [0, 1, 2, 3, 4, 5, 6, 7, 8, 9, 10, 11] rfl rfl (by decide) (by decide) (by decide) [0, 1, 2, 3, 4, 5, 6, 7, 8, 9, 10, 11] (by decide) (fun _ => rfl) (fun hg => va_runS (As := [.int (a2 &&& mr)]) (rest := [.int (f_X5_count (a1 &&& mr))]) ⟨hx, hb, hml, hown, hts⟩ (c_X5_count l D cI _ (a2 &&& mr) hq5) (va_cwS 1 hts gX5_isBetter_X5_count rfl rfl rfl (by decide +kernel) ⟨Nat.le_of_ble_eq_true rfl, Nat.le_of_ble_eq_true rfl⟩) ⟨PW.blind, fun U hU hW => ⟨rfl, hg U hU hW⟩⟩ rfl rfl hl.1 rfl (lv_room (Nat.le_of_ble_eq_true rfl)) dX5_isBetter_53 ⟨Nat.le_of_ble_eq_true rfl, Nat.le_of_ble_eq_true rfl⟩) (fun r5 u H locs hw hP hD hS => ?_)
    subst hw
    obtain ⟨j6, hJ6⟩ : ∃ z : Int32, z = (if (f_X5_count (a1 &&& mr)) = (f_X5_count (a2 &&& mr)) then (if (a1 &&& ((a1 ^^^ a2) &&& (-(a1 ^^^ a2)))) = 0 then (0 : Int32) else (1 : Int32)) else (if (f_X5_count (a1 &&& mr)) ≤ (f_X5_count (a2 &&& mr)) then (0 : Int32) else (1 : Int32))) := ⟨_, rfl⟩
    rw [← hJ6] at he
    try dsimp only at he
    have hpJ6 := hp.1
    replace hp := hp.2 _  hJ6.symm
    have kont6 : (j6 = 0 ∨ j6 = 1) → ∀ (H : Heap) (locs : List Loc), va_P D vwCl (W_X5 cI m0 m1 m2 m3 m4 m5 m6 m7 m8 m9 m10 m11 mr mc me mw mh mn mu ms mt md mz mi mk mo mj ml) H → va_D A (W_X5 cI m0 m1 m2 m3 m4 m5 m6 m7 m8 m9 m10 m11 mr mc me mw mh mn mu ms mt md mz mi mk mo mj ml) → va_S A s.heap H locs → ∀ ls : Array Slot, lv_has ls 5 [] → W p l e (headSpec wsX5_isBetter rm_X5_isBetter).room s m ([.ref m0, .int a1, .int a2] : List Value).toArray below meth c H locs 0 0 (MQ below (Q_X5_isBetter D cI m0 m1 m2 m3 m4 m5 m6 m7 m8 m9 m10 m11 mr mc me mw mh mn mu ms mt md mz mi mk mo mj ml a1 a2 A) ([.ref m0, .int a1, .int a2] : List Value).toArray s 0 0 A) (F0 m 100 ls [.int j6]) := by
      intro hb6 H locs hP hD hS ls hl
      exact W.zret (ty := .boolean) (v := j6) hx hb hr (by rcases hb6 with h9 | h9 <;> rw [h9] <;> rfl) (fun t ht hW => ⟨⟨j6, (), rfl, ⟨he, hb6⟩, by rw [ht]; exact hP, va_K.moved hW.alike hK, hD⟩, hS.F ht⟩) hS.2.2 dX5_isBetter_100
    replace he := hJ6
    replace hp := hpJ6
    refine lv_icmp_eq (tgt := 88) hx hb dX5_isBetter_56 (by decide) (fun c7 => ?_) (fun c7 => ?_)
    · replace hp := hp.1 c7
      replace he := he.trans (if_pos c7)
      refine lv_iload_n hx hb dX5_isBetter_88 rfl (lv_at hl 3 rfl) ?_
      refine lv_iload hx hb dX5_isBetter_89 (lv_at hl 0 rfl) ?_
      refine lv_iand hx hb dX5_isBetter_91 ?_
      refine lv_if_eq (tgt := 99) hx hb dX5_isBetter_92 (by decide) (fun c8 => ?_) (fun c8 => ?_)
      · replace hp := hp.1 c8
        replace he := he.trans (if_pos c8)
        refine lv_iconst (v := 0) hx hb dX5_isBetter_99 (by decide) ?_
        subst he
        exact kont6 (Or.inl rfl) _ _ hP hD hS _ (lv_sub hl [] rfl)
      · replace hp := hp.2 c8
        replace he := he.trans (if_neg c8)
        refine lv_iconst (v := 1) hx hb dX5_isBetter_95 (by decide) ?_
        refine lv_goto (tgt := 100) hx hb dX5_isBetter_96 (by decide) ?_
        subst he
        exact kont6 (Or.inr rfl) _ _ hP hD hS _ (lv_sub hl [] rfl)
    · replace hp := hp.2 c7
      replace he := he.trans (if_neg c7)
      refine lv_iload_n hx hb dX5_isBetter_59 rfl (lv_at hl 3 rfl) ?_
      refine lv_aload_n hx hb dX5_isBetter_60 rfl (lv_at hl 2 rfl) ?_
      refine va_get (D := D) (ci := 5) (v := .int mr) (C := RX5) (T := TX5) (N := 16) hx hb hts (by decide +kernel) hown hK hP 0 rfl rfl 2 (by decide) (hts (.fieldLink RX5 68 "AlarmgroveModel" "raised" "I") (by decide +kernel)) (fun _ h9 => h9) rfl dX5_isBetter_61 ?_
      refine lv_iand hx hb dX5_isBetter_64 ?_
      have hq9 := hp.1
      replace hp := hp.2
      refine k_calli (S := Unit) (wc := ([] : va_W)) (wr := (W_X5 cI m0 m1 m2 m3 m4 m5 m6 m7 m8 m9 m10 m11 mr mc me mw mh mn mu ms mt md mz mi mk mo mj ml)) (w1 := fun u => ([] : va_W)) (fun u => (W_X5 cI m0 m1 m2 m3 m4 m5 m6 m7 m8 m9 m10 m11 mr mc me mw mh mn mu ms mt md mz mi mk mo mj ml)) hP hK hD hN hS hA [] [0, 1, 2, 3, 4, 5, 6, 7, 8, 9, 10, 11] rfl rfl (by decide) (by decide) (by decide) [0, 1, 2, 3, 4, 5, 6, 7, 8, 9, 10, 11] (by decide) (fun _ => rfl) (fun hg => va_runS (As := [.int (a1 &&& mr)]) (rest := []) ⟨hx, hb, hml, hown, hts⟩ (c_X5_count l D cI _ (a1 &&& mr) hq9) (va_cwS 1 hts gX5_isBetter_X5_count rfl rfl rfl (by decide +kernel) ⟨Nat.le_of_ble_eq_true rfl, Nat.le_of_ble_eq_true rfl⟩) ⟨PW.blind, fun U hU hW => ⟨rfl, hg U hU hW⟩⟩ rfl rfl hl.1 rfl (lv_room (Nat.le_of_ble_eq_true rfl)) dX5_isBetter_65 ⟨Nat.le_of_ble_eq_true rfl, Nat.le_of_ble_eq_true rfl⟩) (fun r9 u H locs hw hP hD hS => ?_)
      subst hw
      refine lv_iload_n hx hb dX5_isBetter_68 rfl (lv_at hl 4 rfl) ?_
      refine lv_aload_n hx hb dX5_isBetter_69 rfl (lv_at hl 2 rfl) ?_
      refine va_get (D := D) (ci := 5) (v := .int mr) (C := RX5) (T := TX5) (N := 16) hx hb hts (by decide +kernel) hown hK hP 0 rfl rfl 2 (by decide) (hts (.fieldLink RX5 68 "AlarmgroveModel" "raised" "I") (by decide +kernel)) (fun _ h9 => h9) rfl dX5_isBetter_70 ?_
      refine lv_iand hx hb dX5_isBetter_73 ?_
      have hq10 := hp.1
      replace hp := hp.2
      refine k_calli (S := Unit) (wc := ([] : va_W)) (wr := (W_X5 cI m0 m1 m2 m3 m4 m5 m6 m7 m8 m9 m10 m11 mr mc me mw mh mn mu ms mt md mz mi mk mo mj ml)) (w1 := fun u => ([] : va_W)) (fun u => (W_X5 cI m0 m1 m2 m3 m4 m5 m6 m7 m8 m9 m10 m11 mr mc me mw mh mn mu ms mt md mz mi mk mo mj ml)) hP hK hD hN hS hA [] [0, 1, 2, 3, 4, 5, 6, 7, 8, 9, 10, 11] rfl rfl (by decide) (by decide) (by decide) [0, 1, 2, 3, 4, 5, 6, 7, 8, 9, 10, 11] (by decide) (fun _ => rfl) (fun hg => va_runS (As := [.int (a2 &&& mr)]) (rest := [.int (f_X5_count (a1 &&& mr))]) ⟨hx, hb, hml, hown, hts⟩ (c_X5_count l D cI _ (a2 &&& mr) hq10) (va_cwS 1 hts gX5_isBetter_X5_count rfl rfl rfl (by decide +kernel) ⟨Nat.le_of_ble_eq_true rfl, Nat.le_of_ble_eq_true rfl⟩) ⟨PW.blind, fun U hU hW => ⟨rfl, hg U hU hW⟩⟩ rfl rfl hl.1 rfl (lv_room (Nat.le_of_ble_eq_true rfl)) dX5_isBetter_74 ⟨Nat.le_of_ble_eq_true rfl, Nat.le_of_ble_eq_true rfl⟩) (fun r10 u H locs hw hP hD hS => ?_)
      subst hw
      refine lv_icmp_le (tgt := 84) hx hb dX5_isBetter_77 (by decide) (fun c11 => ?_) (fun c11 => ?_)
      · replace hp := hp.1 c11
        replace he := he.trans (if_pos c11)
        refine lv_iconst (v := 0) hx hb dX5_isBetter_84 (by decide) ?_
        refine lv_goto (tgt := 100) hx hb dX5_isBetter_85 (by decide) ?_
        subst he
        exact kont6 (Or.inl rfl) _ _ hP hD hS _ (lv_sub hl [] rfl)
      · replace hp := hp.2 c11
        replace he := he.trans (if_neg c11)
        refine lv_iconst (v := 1) hx hb dX5_isBetter_80 (by decide) ?_
        refine lv_goto (tgt := 100) hx hb dX5_isBetter_81 (by decide) ?_
        subst he
        exact kont6 (Or.inr rfl) _ _ hP hD hS _ (lv_sub hl [] rfl)
  · replace hp := hp.2 c3
    replace he := he.trans (if_neg c3)
    refine lv_iload_n hx hb dX5_isBetter_21 rfl (lv_at hl 3 rfl) ?_
    have hq12 := hp.1
    replace hp := hp.2
    refine k_calli (S := Unit) (wc := ([] : va_W)) (wr := (W_X5 cI m0 m1 m2 m3 m4 m5 m6 m7 m8 m9 m10 m11 mr mc me mw mh mn mu ms mt md mz mi mk mo mj ml)) (w1 := fun u => ([] : va_W)) (fun u => (W_X5 cI m0 m1 m2 m3 m4 m5 m6 m7 m8 m9 m10 m11 mr mc me mw mh mn mu ms mt md mz mi mk mo mj ml)) hP hK hD hN hS hA [] [0, 1, 2, 3, 4, 5, 6, 7, 8, 9, 10, 11] rfl rfl (by decide) (by decide) (by decide) [0, 1, 2, 3, 4, 5, 6, 7, 8, 9, 10, 11] (by decide) (fun _ => rfl) (fun hg => va_runS (As := [.int a1]) (rest := []) ⟨hx, hb, hml, hown, hts⟩ (c_X5_count l D cI _ a1 hq12) (va_cwS 1 hts gX5_isBetter_X5_count rfl rfl rfl (by decide +kernel) ⟨Nat.le_of_ble_eq_true rfl, Nat.le_of_ble_eq_true rfl⟩) ⟨PW.blind, fun U hU hW => ⟨rfl, hg U hU hW⟩⟩ rfl rfl hl.1 rfl (lv_room (Nat.le_of_ble_eq_true rfl)) dX5_isBetter_22 ⟨Nat.le_of_ble_eq_true rfl, Nat.le_of_ble_eq_true rfl⟩) (fun r12 u H locs hw hP hD hS => ?_)
    subst hw
    refine lv_iload_n hx hb dX5_isBetter_25 rfl (lv_at hl 4 rfl) ?_
    have hq13 := hp.1
    replace hp := hp.2
    refine k_calli (S := Unit) (wc := ([] : va_W)) (wr := (W_X5 cI m0 m1 m2 m3 m4 m5 m6 m7 m8 m9 m10 m11 mr mc me mw mh mn mu ms mt md mz mi mk mo mj ml)) (w1 := fun u => ([] : va_W)) (fun u => (W_X5 cI m0 m1 m2 m3 m4 m5 m6 m7 m8 m9 m10 m11 mr mc me mw mh mn mu ms mt md mz mi mk mo mj ml)) hP hK hD hN hS hA [] [0, 1, 2, 3, 4, 5, 6, 7, 8, 9, 10, 11] rfl rfl (by decide) (by decide) (by decide) [0, 1, 2, 3, 4, 5, 6, 7, 8, 9, 10, 11] (by decide) (fun _ => rfl) (fun hg => va_runS (As := [.int a2]) (rest := [.int (f_X5_count a1)]) ⟨hx, hb, hml, hown, hts⟩ (c_X5_count l D cI _ a2 hq13) (va_cwS 1 hts gX5_isBetter_X5_count rfl rfl rfl (by decide +kernel) ⟨Nat.le_of_ble_eq_true rfl, Nat.le_of_ble_eq_true rfl⟩) ⟨PW.blind, fun U hU hW => ⟨rfl, hg U hU hW⟩⟩ rfl rfl hl.1 rfl (lv_room (Nat.le_of_ble_eq_true rfl)) dX5_isBetter_26 ⟨Nat.le_of_ble_eq_true rfl, Nat.le_of_ble_eq_true rfl⟩) (fun r13 u H locs hw hP hD hS => ?_)
    subst hw
    obtain ⟨j14, hJ14⟩ : ∃ z : Int32, z = (if (f_X5_count a2) ≤ (f_X5_count a1) then (0 : Int32) else (1 : Int32)) := ⟨_, rfl⟩
    rw [← hJ14] at he
    try dsimp only at he
    have hpJ14 := hp.1
    replace hp := hp.2 _  hJ14.symm
    have kont14 : (j14 = 0 ∨ j14 = 1) → ∀ (H : Heap) (locs : List Loc), va_P D vwCl (W_X5 cI m0 m1 m2 m3 m4 m5 m6 m7 m8 m9 m10 m11 mr mc me mw mh mn mu ms mt md mz mi mk mo mj ml) H → va_D A (W_X5 cI m0 m1 m2 m3 m4 m5 m6 m7 m8 m9 m10 m11 mr mc me mw mh mn mu ms mt md mz mi mk mo mj ml) → va_S A s.heap H locs → ∀ ls : Array Slot, lv_has ls 5 [] → W p l e (headSpec wsX5_isBetter rm_X5_isBetter).room s m ([.ref m0, .int a1, .int a2] : List Value).toArray below meth c H locs 0 0 (MQ below (Q_X5_isBetter D cI m0 m1 m2 m3 m4 m5 m6 m7 m8 m9 m10 m11 mr mc me mw mh mn mu ms mt md mz mi mk mo mj ml a1 a2 A) ([.ref m0, .int a1, .int a2] : List Value).toArray s 0 0 A) (F0 m 37 ls [.int j14]) := by
      intro hb14 H locs hP hD hS ls hl
      exact W.zret (ty := .boolean) (v := j14) hx hb hr (by rcases hb14 with h9 | h9 <;> rw [h9] <;> rfl) (fun t ht hW => ⟨⟨j14, (), rfl, ⟨he, hb14⟩, by rw [ht]; exact hP, va_K.moved hW.alike hK, hD⟩, hS.F ht⟩) hS.2.2 dX5_isBetter_37
    replace he := hJ14
    replace hp := hpJ14
    refine lv_icmp_ge (tgt := 36) hx hb dX5_isBetter_29 (by decide) (fun c15 => ?_) (fun c15 => ?_)
    · replace hp := hp.1 c15
      replace he := he.trans (if_pos c15)
      refine lv_iconst (v := 0) hx hb dX5_isBetter_36 (by decide) ?_
      subst he
      exact kont14 (Or.inl rfl) _ _ hP hD hS _ (lv_sub hl [] rfl)
    · replace hp := hp.2 c15
      replace he := he.trans (if_neg c15)
      refine lv_iconst (v := 1) hx hb dX5_isBetter_32 (by decide) ?_
      refine lv_goto (tgt := 37) hx hb dX5_isBetter_33 (by decide) ?_
      subst he
      exact kont14 (Or.inr rfl) _ _ hP hD hS _ (lv_sub hl [] rfl)
abbrev rm_X5_best : Room := { frames := 2, cells := 0, slots := 0, locals := 46 }
abbrev Q_X5_best (D : va_G) (cI : ClassId) (m0 m1 m2 m3 m4 m5 m6 m7 m8 m9 m10 m11 : Nat) (mr : Int32) (mc : Int32) (me : Int32) (mw : Int32) (mh : Int32) (mn : AA) (mu : AA) (ms : AA) (mt : AA) (md : AA) (mz : AA) (mi : AA) (mk : AA) (mo : AA) (mj : AA) (ml : AA) (A : Nat → Prop) : Array Value → State → Outcome → State → Prop := va_Qi (S := Unit) (fun r u => f_X5_best mr mn mu = r) (fun u t => QW D [(cI, .int)] A (W_X5 cI m0 m1 m2 m3 m4 m5 m6 m7 m8 m9 m10 m11 mr mc me mw mh mn mu ms mt md mz mi mk mo mj ml) t) A
set_option maxHeartbeats 4000000 in
set_option maxRecDepth 100000 in
theorem c_X5_best (l : Launch)  (D : va_G) (cI : ClassId) (m0 m1 m2 m3 m4 m5 m6 m7 m8 m9 m10 m11 : Nat) (mr : Int32) (mc : Int32) (me : Int32) (mw : Int32) (mh : Int32) (mn : AA) (mu : AA) (ms : AA) (mt : AA) (md : AA) (mz : AA) (mi : AA) (mk : AA) (mo : AA) (mj : AA) (ml : AA) (sz : Nat) (hp : p_X5_best mr mn mu) : Met l yX5_best wsX5_best rm_X5_best (va_Pc [.ref m0] (PW D [(cI, .int)] sz (W_X5 cI m0 m1 m2 m3 m4 m5 m6 m7 m8 m9 m10 m11 mr mc me mw mh mn mu ms mt md mz mi mk mo mj ml))) (Q_X5_best D cI m0 m1 m2 m3 m4 m5 m6 m7 m8 m9 m10 m11 mr mc me mw mh mn mu ms mt md mz mi mk mo mj ml (va_A (W_X5 cI m0 m1 m2 m3 m4 m5 m6 m7 m8 m9 m10 m11 mr mc me mw mh mn mu ms mt md mz mi mk mo mj ml) sz)) 0 0 (va_A (W_X5 cI m0 m1 m2 m3 m4 m5 m6 m7 m8 m9 m10 m11 mr mc me mw mh mn mu ms mt md mz mi mk mo mj ml) sz) := by
  refine Met.ofW (cc := cX5_best) (maxL := 4) (ret := (some .int)) (by decide) rfl ?_
  intro p e s m args below meth c s₁ B hml hv
  obtain ⟨rfl, hsz, hP, hK, hD0, hN⟩ := hv
  have hx := B.exec
  have hb := B.bytes
  have hr := B.returns
  have hts := atoms_spec (ws := wsX5_best) B.pre
  have hown : s.vm.findClass RX5 = some m.cls := findClass_of_methodNamed B.named
  have hlocks := B.notSynchronized
  subst hsz
  have hD := hD0.self (sz := s.heap.size)
  generalize hAe : va_A (W_X5 cI m0 m1 m2 m3 m4 m5 m6 m7 m8 m9 m10 m11 mr mc me mw mh mn mu ms mt md mz mi mk mo mj ml) s.heap.size = A at hD ⊢
  have hA : ∀ q : Nat, s.heap.size ≤ q → A q := fun q h => by rw [← hAe]; exact Or.inr h
  have hS : va_S A s.heap s.heap [] := va_S.rf
  have hl := lv_entry ([.ref m0]) (n := 4) (Nat.le_of_ble_eq_true rfl)
  rw [lg_entry_eq]
  generalize (lg_sl ([.ref m0]) ++ List.replicate (4 - (lg_sl ([.ref m0])).length) Slot.unset).toArray = ls at hl ⊢
  have hl : lv_has ls 4 [(0, .ref m0)] := hl
  have he := f_X5_best.eq_1 mr mn mu
  replace hp := Eq.mp (p_X5_best.eq_1 ..) hp
  refine lv_iconst (v := 0) hx hb dX5_best_0 (by decide) ?_
  refine lv_istore_n (lv' := [(1, .int 0), (0, .ref m0)]) hx hb dX5_best_1 rfl hl (by decide) rfl (fun ls hl => ?_)
  refine lv_iconst (v := 0) hx hb dX5_best_2 (by decide) ?_
  refine lv_istore_n (lv' := [(2, .int 0), (1, .int 0), (0, .ref m0)]) hx hb dX5_best_3 rfl hl (by decide) rfl (fun ls hl => ?_)
  obtain ⟨⟨r1_v4_1, r1_v4_2⟩, hL1⟩ : ∃ z, z = f_X5_best_L4 mr mn 15 (0 : Int32) (0 : Int32) := ⟨_, rfl⟩
  rw [← hL1] at he
  try dsimp only at he
  have hpL1 := hp.1
  replace hp := hp.2 _ _ hL1.symm
  have kont1 : ∀ (x1_v4_1 : Int32) (x1_v4_2 : Int32), (r1_v4_1, r1_v4_2) = (x1_v4_1, x1_v4_2) → ∀ (H : Heap) (locs : List Loc), va_P D vwCl (W_X5 cI m0 m1 m2 m3 m4 m5 m6 m7 m8 m9 m10 m11 mr mc me mw mh mn mu ms mt md mz mi mk mo mj ml) H → va_D A (W_X5 cI m0 m1 m2 m3 m4 m5 m6 m7 m8 m9 m10 m11 mr mc me mw mh mn mu ms mt md mz mi mk mo mj ml) → va_S A s.heap H locs → ∀ ls : Array Slot, lv_has ls 4 [(1, .int x1_v4_1), (0, .ref m0)] → W p l e (headSpec wsX5_best rm_X5_best).room s m ([.ref m0] : List Value).toArray below meth c H locs 0 0 (MQ below (Q_X5_best D cI m0 m1 m2 m3 m4 m5 m6 m7 m8 m9 m10 m11 mr mc me mw mh mn mu ms mt md mz mi mk mo mj ml A) ([.ref m0] : List Value).toArray s 0 0 A) (F0 m 34 ls []) := by
    intro x1_v4_1 x1_v4_2 hxe H locs hP hD hS ls hl
    simp only [Prod.mk.injEq] at hxe
    obtain ⟨rfl, rfl⟩ := hxe
    refine lv_aload_n hx hb dX5_best_34 rfl (lv_at hl 1 rfl) ?_
    refine va_get (D := D) (ci := 5) (v := .int mr) (C := RX5) (T := TX5) (N := 16) hx hb hts (by decide +kernel) hown hK hP 0 rfl rfl 2 (by decide) (hts (.fieldLink RX5 68 "AlarmgroveModel" "raised" "I") (by decide +kernel)) (fun _ h9 => h9) rfl dX5_best_35 ?_
    refine lv_istore_n (lv' := [(2, .int mr), (1, .int r1_v4_1), (0, .ref m0)]) hx hb dX5_best_38 rfl hl (by decide) rfl (fun ls hl => ?_)
    refine lv_iload_n hx hb dX5_best_39 rfl (lv_at hl 1 rfl) ?_
    refine lv_istore_n (lv' := [(3, .int r1_v4_1), (2, .int mr), (1, .int r1_v4_1), (0, .ref m0)]) hx hb dX5_best_40 rfl hl (by decide) rfl (fun ls hl => ?_)
    obtain ⟨⟨r6_v41_2, r6_v41_3⟩, hL6⟩ : ∃ z, z = f_X5_best_L41 mr mu r1_v4_1 16385 mr r1_v4_1 := ⟨_, rfl⟩
    rw [← hL6] at he
    try dsimp only at he
    have hpL6 := hp.1
    replace hp := hp.2 _ _ hL6.symm
    have kont6 : ∀ (x6_v41_2 : Int32) (x6_v41_3 : Int32), (r6_v41_2, r6_v41_3) = (x6_v41_2, x6_v41_3) → ∀ (H : Heap) (locs : List Loc), va_P D vwCl (W_X5 cI m0 m1 m2 m3 m4 m5 m6 m7 m8 m9 m10 m11 mr mc me mw mh mn mu ms mt md mz mi mk mo mj ml) H → va_D A (W_X5 cI m0 m1 m2 m3 m4 m5 m6 m7 m8 m9 m10 m11 mr mc me mw mh mn mu ms mt md mz mi mk mo mj ml) → va_S A s.heap H locs → ∀ ls : Array Slot, lv_has ls 4 [(2, .int x6_v41_2), (0, .ref m0)] → W p l e (headSpec wsX5_best rm_X5_best).room s m ([.ref m0] : List Value).toArray below meth c H locs 0 0 (MQ below (Q_X5_best D cI m0 m1 m2 m3 m4 m5 m6 m7 m8 m9 m10 m11 mr mc me mw mh mn mu ms mt md mz mi mk mo mj ml A) ([.ref m0] : List Value).toArray s 0 0 A) (F0 m 87 ls []) := by
      intro x6_v41_2 x6_v41_3 hxe H locs hP hD hS ls hl
      simp only [Prod.mk.injEq] at hxe
      obtain ⟨rfl, rfl⟩ := hxe
      refine lv_aload_n hx hb dX5_best_87 rfl (lv_at hl 1 rfl) ?_
      refine va_get (D := D) (ci := 5) (v := .int mr) (C := RX5) (T := TX5) (N := 16) hx hb hts (by decide +kernel) hown hK hP 0 rfl rfl 2 (by decide) (hts (.fieldLink RX5 68 "AlarmgroveModel" "raised" "I") (by decide +kernel)) (fun _ h9 => h9) rfl dX5_best_88 ?_
      obtain ⟨j13, hJ13⟩ : ∃ z : Int32, z = (if mr = 0 then (0 : Int32) else r6_v41_2) := ⟨_, rfl⟩
      rw [← hJ13] at he
      try dsimp only at he
      have hpJ13 := hp.1
      replace hp := hp.2 _  hJ13.symm
      have kont13 : ∀ (H : Heap) (locs : List Loc), va_P D vwCl (W_X5 cI m0 m1 m2 m3 m4 m5 m6 m7 m8 m9 m10 m11 mr mc me mw mh mn mu ms mt md mz mi mk mo mj ml) H → va_D A (W_X5 cI m0 m1 m2 m3 m4 m5 m6 m7 m8 m9 m10 m11 mr mc me mw mh mn mu ms mt md mz mi mk mo mj ml) → va_S A s.heap H locs → ∀ ls : Array Slot, lv_has ls 4 [] → W p l e (headSpec wsX5_best rm_X5_best).room s m ([.ref m0] : List Value).toArray below meth c H locs 0 0 (MQ below (Q_X5_best D cI m0 m1 m2 m3 m4 m5 m6 m7 m8 m9 m10 m11 mr mc me mw mh mn mu ms mt md mz mi mk mo mj ml A) ([.ref m0] : List Value).toArray s 0 0 A) (F0 m 99 ls [.int j13]) := by
        intro H locs hP hD hS ls hl
        exact W.iret (v := j13) hx hb hr (fun t ht hW => ⟨⟨j13, (), rfl, he, by rw [ht]; exact hP, va_K.moved hW.alike hK, hD⟩, hS.F ht⟩) hS.2.2 dX5_best_99
      replace he := hJ13
      replace hp := hpJ13
      refine lv_if_ne (tgt := 98) hx hb dX5_best_91 (by decide) (fun c14 => ?_) (fun c14 => ?_)
      · replace hp := hp.2 c14
        replace he := he.trans (if_neg c14)
        refine lv_iload_n hx hb dX5_best_98 rfl (lv_at hl 0 rfl) ?_
        subst he
        exact kont13 _ _ hP hD hS _ (lv_sub hl [] rfl)
      · replace hp := hp.1 c14
        replace he := he.trans (if_pos c14)
        refine lv_iconst (v := 0) hx hb dX5_best_94 (by decide) ?_
        refine lv_goto (tgt := 99) hx hb dX5_best_95 (by decide) ?_
        subst he
        exact kont13 _ _ hP hD hS _ (lv_sub hl [] rfl)
    have loop6 : ∀ (n : Nat) (v41_2 : Int32) (v41_3 : Int32), p_X5_best_L41 mr mu r1_v4_1 n v41_2 v41_3 → (r6_v41_2, r6_v41_3) = f_X5_best_L41 mr mu r1_v4_1 n v41_2 v41_3 → ∀ (H : Heap) (locs : List Loc), va_P D vwCl (W_X5 cI m0 m1 m2 m3 m4 m5 m6 m7 m8 m9 m10 m11 mr mc me mw mh mn mu ms mt md mz mi mk mo mj ml) H → va_D A (W_X5 cI m0 m1 m2 m3 m4 m5 m6 m7 m8 m9 m10 m11 mr mc me mw mh mn mu ms mt md mz mi mk mo mj ml) → va_S A s.heap H locs → ∀ ls : Array Slot, lv_has ls 4 [(3, .int v41_3), (2, .int v41_2), (1, .int r1_v4_1), (0, .ref m0)] → W p l e (headSpec wsX5_best rm_X5_best).room s m ([.ref m0] : List Value).toArray below meth c H locs 0 0 (MQ below (Q_X5_best D cI m0 m1 m2 m3 m4 m5 m6 m7 m8 m9 m10 m11 mr mc me mw mh mn mu ms mt md mz mi mk mo mj ml A) ([.ref m0] : List Value).toArray s 0 0 A) (F0 m 41 ls []) := by
      intro n
      induction n with
      | zero => exact fun _ _ hp => hp.elim
      | succ n ih =>
        intro v41_2 v41_3 hp he H locs hP hD hS ls hl
        replace hp := Eq.mp (p_X5_best_L41.eq_2 ..) hp
        replace he := he.trans (f_X5_best_L41.eq_2 ..)
        refine lv_iload_n hx hb dX5_best_41 rfl (lv_at hl 0 rfl) ?_
        refine lv_if_le (tgt := 87) hx hb dX5_best_42 (by decide) (fun c7 => ?_) (fun c7 => ?_)
        · replace hp := hp.1 c7
          replace he := he.trans (if_pos c7)
          exact kont6 _ _ he _ _ hP hD hS _ (lv_sub hl [1, 3] rfl)
        · replace hp := hp.2 c7
          replace he := he.trans (if_neg c7)
          refine lv_iload_n hx hb dX5_best_45 rfl (lv_at hl 0 rfl) ?_
          refine lv_iload_n hx hb dX5_best_46 rfl (lv_at hl 1 rfl) ?_
          refine lv_icmp_eq (tgt := 78) hx hb dX5_best_47 (by decide) (fun c8 => ?_) (fun c8 => ?_)
          · replace hp := hp.1 c8
            replace he := he.trans (if_pos c8)
            refine lv_iload_n hx hb dX5_best_78 rfl (lv_at hl 0 rfl) ?_
            refine lv_iconst (v := 1) hx hb dX5_best_79 (by decide) ?_
            refine lv_isub hx hb dX5_best_80 ?_
            refine lv_iload_n hx hb dX5_best_81 rfl (lv_at hl 2 rfl) ?_
            refine lv_iand hx hb dX5_best_82 ?_
            refine lv_istore_n (lv' := [(3, .int ((v41_3 - 1) &&& r1_v4_1)), (2, .int v41_2), (1, .int r1_v4_1), (0, .ref m0)]) hx hb dX5_best_83 rfl hl (by decide) rfl (fun ls hl => ?_)
            refine lv_goto (tgt := 41) hx hb dX5_best_84 (by decide) ?_
            exact ih _ _ hp he _ _ hP hD hS _ (lv_sub hl [0, 1, 2, 3] rfl)
          · replace hp := hp.2 c8
            replace he := he.trans (if_neg c8)
            refine lv_aload_n hx hb dX5_best_50 rfl (lv_at hl 3 rfl) ?_
            refine lv_iload_n hx hb dX5_best_51 rfl (lv_at hl 0 rfl) ?_
            refine lv_iload_n hx hb dX5_best_52 rfl (lv_at hl 1 rfl) ?_
            have hq9 := hp.1
            replace hp := hp.2
            refine k_calli (S := Unit) (wc := (W_X5 cI m0 m1 m2 m3 m4 m5 m6 m7 m8 m9 m10 m11 mr mc me mw mh mn mu ms mt md mz mi mk mo mj ml)) (wr := ([] : va_W)) (w1 := fun u => (W_X5 cI m0 m1 m2 m3 m4 m5 m6 m7 m8 m9 m10 m11 mr mc me mw mh mn mu ms mt md mz mi mk mo mj ml)) (fun u => (W_X5 cI m0 m1 m2 m3 m4 m5 m6 m7 m8 m9 m10 m11 mr mc me mw mh mn mu ms mt md mz mi mk mo mj ml)) hP hK hD hN hS hA [0, 1, 2, 3, 4, 5, 6, 7, 8, 9, 10, 11] [] rfl rfl (by decide) (by decide) (by decide) [0, 1, 2, 3, 4, 5, 6, 7, 8, 9, 10, 11] (by decide) (fun _ => rfl) (fun hg => va_runV (As := [.int v41_3, .int v41_2]) (rest := []) ⟨hx, hb, hml, hown, hts⟩ (c_X5_isBetter l D cI m0 m1 m2 m3 m4 m5 m6 m7 m8 m9 m10 m11 mr mc me mw mh mn mu ms mt md mz mi mk mo mj ml _ v41_3 v41_2 hq9) (cwV 2 hts gX5_best_X5_isBetter rfl rfl rfl (by decide +kernel) ⟨Nat.le_of_ble_eq_true rfl, Nat.le_of_ble_eq_true rfl⟩) ⟨PW.blind, va_recv hK hP (ci := 5) (q0 := 0) rfl rfl, fun U hU hW => ⟨rfl, hg U hU hW⟩⟩ rfl rfl hl.1 rfl (lv_room (Nat.le_of_ble_eq_true rfl)) dX5_best_53 ⟨Nat.le_of_ble_eq_true rfl, Nat.le_of_ble_eq_true rfl⟩) (fun r9 u H locs hw hP hD hS => ?_)
            obtain ⟨hw, hb9⟩ := hw
            subst hw
            refine lv_if_eq (tgt := 78) hx hb dX5_best_56 (by decide) (fun c10 => ?_) (fun c10 => ?_)
            · replace hp := hp.1 c10
              replace he := he.trans (if_pos c10)
              refine lv_iload_n hx hb dX5_best_78 rfl (lv_at hl 0 rfl) ?_
              refine lv_iconst (v := 1) hx hb dX5_best_79 (by decide) ?_
              refine lv_isub hx hb dX5_best_80 ?_
              refine lv_iload_n hx hb dX5_best_81 rfl (lv_at hl 2 rfl) ?_
              refine lv_iand hx hb dX5_best_82 ?_
              refine lv_istore_n (lv' := [(3, .int ((v41_3 - 1) &&& r1_v4_1)), (2, .int v41_2), (1, .int r1_v4_1), (0, .ref m0)]) hx hb dX5_best_83 rfl hl (by decide) rfl (fun ls hl => ?_)
              refine lv_goto (tgt := 41) hx hb dX5_best_84 (by decide) ?_
              exact ih _ _ hp he _ _ hP hD hS _ (lv_sub hl [0, 1, 2, 3] rfl)
            · replace hp := hp.2 c10
              replace he := he.trans (if_neg c10)
              refine lv_aload_n hx hb dX5_best_59 rfl (lv_at hl 3 rfl) ?_
              refine lv_iload_n hx hb dX5_best_60 rfl (lv_at hl 0 rfl) ?_
              have hq11 := hp.1
              replace hp := hp.2
              refine k_calli (S := Unit) (wc := (W_X5 cI m0 m1 m2 m3 m4 m5 m6 m7 m8 m9 m10 m11 mr mc me mw mh mn mu ms mt md mz mi mk mo mj ml)) (wr := ([] : va_W)) (w1 := fun u => (W_X5 cI m0 m1 m2 m3 m4 m5 m6 m7 m8 m9 m10 m11 mr mc me mw mh mn mu ms mt md mz mi mk mo mj ml)) (fun u => (W_X5 cI m0 m1 m2 m3 m4 m5 m6 m7 m8 m9 m10 m11 mr mc me mw mh mn mu ms mt md mz mi mk mo mj ml)) hP hK hD hN hS hA [0, 1, 2, 3, 4, 5, 6, 7, 8, 9, 10, 11] [] rfl rfl (by decide) (by decide) (by decide) [0, 1, 2, 3, 4, 5, 6, 7, 8, 9, 10, 11] (by decide) (fun _ => rfl) (fun hg => va_runV (As := [.int v41_3]) (rest := []) ⟨hx, hb, hml, hown, hts⟩ (c_X5_explained l D cI m0 m1 m2 m3 m4 m5 m6 m7 m8 m9 m10 m11 mr mc me mw mh mn mu ms mt md mz mi mk mo mj ml _ v41_3 hq11) (cwV 1 hts gX5_best_X5_explained rfl rfl rfl (by decide +kernel) ⟨Nat.le_of_ble_eq_true rfl, Nat.le_of_ble_eq_true rfl⟩) ⟨PW.blind, va_recv hK hP (ci := 5) (q0 := 0) rfl rfl, fun U hU hW => ⟨rfl, hg U hU hW⟩⟩ rfl rfl hl.1 rfl (lv_room (Nat.le_of_ble_eq_true rfl)) dX5_best_61 ⟨Nat.le_of_ble_eq_true rfl, Nat.le_of_ble_eq_true rfl⟩) (fun r11 u H locs hw hP hD hS => ?_)
              subst hw
              refine lv_aload_n hx hb dX5_best_64 rfl (lv_at hl 3 rfl) ?_
              refine va_get (D := D) (ci := 5) (v := .int mr) (C := RX5) (T := TX5) (N := 16) hx hb hts (by decide +kernel) hown hK hP 0 rfl rfl 2 (by decide) (hts (.fieldLink RX5 68 "AlarmgroveModel" "raised" "I") (by decide +kernel)) (fun _ h9 => h9) rfl dX5_best_65 ?_
              refine lv_iand hx hb dX5_best_68 ?_
              refine lv_aload_n hx hb dX5_best_69 rfl (lv_at hl 3 rfl) ?_
              refine va_get (D := D) (ci := 5) (v := .int mr) (C := RX5) (T := TX5) (N := 16) hx hb hts (by decide +kernel) hown hK hP 0 rfl rfl 2 (by decide) (hts (.fieldLink RX5 68 "AlarmgroveModel" "raised" "I") (by decide +kernel)) (fun _ h9 => h9) rfl dX5_best_70 ?_
              refine lv_icmp_ne (tgt := 78) hx hb dX5_best_73 (by decide) (fun c12 => ?_) (fun c12 => ?_)
              · replace hp := hp.2 c12
                replace he := he.trans (if_neg c12)
                refine lv_iload_n hx hb dX5_best_78 rfl (lv_at hl 0 rfl) ?_
                refine lv_iconst (v := 1) hx hb dX5_best_79 (by decide) ?_
                refine lv_isub hx hb dX5_best_80 ?_
                refine lv_iload_n hx hb dX5_best_81 rfl (lv_at hl 2 rfl) ?_
                refine lv_iand hx hb dX5_best_82 ?_
                refine lv_istore_n (lv' := [(3, .int ((v41_3 - 1) &&& r1_v4_1)), (2, .int v41_2), (1, .int r1_v4_1), (0, .ref m0)]) hx hb dX5_best_83 rfl hl (by decide) rfl (fun ls hl => ?_)
                refine lv_goto (tgt := 41) hx hb dX5_best_84 (by decide) ?_
                exact ih _ _ hp he _ _ hP hD hS _ (lv_sub hl [0, 1, 2, 3] rfl)
              · replace hp := hp.1 c12
                replace he := he.trans (if_pos c12)
                refine lv_iload_n hx hb dX5_best_76 rfl (lv_at hl 0 rfl) ?_
                refine lv_istore_n (lv' := [(2, .int v41_3), (3, .int v41_3), (1, .int r1_v4_1), (0, .ref m0)]) hx hb dX5_best_77 rfl hl (by decide) rfl (fun ls hl => ?_)
                refine lv_iload_n hx hb dX5_best_78 rfl (lv_at hl 1 rfl) ?_
                refine lv_iconst (v := 1) hx hb dX5_best_79 (by decide) ?_
                refine lv_isub hx hb dX5_best_80 ?_
                refine lv_iload_n hx hb dX5_best_81 rfl (lv_at hl 2 rfl) ?_
                refine lv_iand hx hb dX5_best_82 ?_
                refine lv_istore_n (lv' := [(3, .int ((v41_3 - 1) &&& r1_v4_1)), (2, .int v41_3), (1, .int r1_v4_1), (0, .ref m0)]) hx hb dX5_best_83 rfl hl (by decide) rfl (fun ls hl => ?_)
                refine lv_goto (tgt := 41) hx hb dX5_best_84 (by decide) ?_
                exact ih _ _ hp he _ _ hP hD hS _ (lv_sub hl [0, 1, 2, 3] rfl)
    exact loop6 16385 mr r1_v4_1 hpL6 hL6 _ _ hP hD hS _ (lv_sub hl [0, 1, 2, 3] rfl)
  have loop1 : ∀ (n : Nat) (v4_1 : Int32) (v4_2 : Int32), p_X5_best_L4 mr mn n v4_1 v4_2 → (r1_v4_1, r1_v4_2) = f_X5_best_L4 mr mn n v4_1 v4_2 → ∀ (H : Heap) (locs : List Loc), va_P D vwCl (W_X5 cI m0 m1 m2 m3 m4 m5 m6 m7 m8 m9 m10 m11 mr mc me mw mh mn mu ms mt md mz mi mk mo mj ml) H → va_D A (W_X5 cI m0 m1 m2 m3 m4 m5 m6 m7 m8 m9 m10 m11 mr mc me mw mh mn mu ms mt md mz mi mk mo mj ml) → va_S A s.heap H locs → ∀ ls : Array Slot, lv_has ls 4 [(2, .int v4_2), (1, .int v4_1), (0, .ref m0)] → W p l e (headSpec wsX5_best rm_X5_best).room s m ([.ref m0] : List Value).toArray below meth c H locs 0 0 (MQ below (Q_X5_best D cI m0 m1 m2 m3 m4 m5 m6 m7 m8 m9 m10 m11 mr mc me mw mh mn mu ms mt md mz mi mk mo mj ml A) ([.ref m0] : List Value).toArray s 0 0 A) (F0 m 4 ls []) := by
    intro n
    induction n with
    | zero => exact fun _ _ hp => hp.elim
    | succ n ih =>
      intro v4_1 v4_2 hp he H locs hP hD hS ls hl
      replace hp := Eq.mp (p_X5_best_L4.eq_2 ..) hp
      replace he := he.trans (f_X5_best_L4.eq_2 ..)
      refine lv_iload_n hx hb dX5_best_4 rfl (lv_at hl 0 rfl) ?_
      refine lv_bipush (v := 14) hx hb dX5_best_5 (by decide) ?_
      refine lv_icmp_ge (tgt := 34) hx hb dX5_best_7 (by decide) (fun c2 => ?_) (fun c2 => ?_)
      · replace hp := hp.1 c2
        replace he := he.trans (if_pos c2)
        exact kont1 _ _ he _ _ hP hD hS _ (lv_sub hl [1, 2] rfl)
      · replace hp := hp.2 c2
        replace he := he.trans (if_neg c2)
        refine lv_iload_n hx hb dX5_best_10 rfl (lv_at hl 1 rfl) ?_
        refine lv_aload_n hx hb dX5_best_11 rfl (lv_at hl 2 rfl) ?_
        refine lv_iload_n hx hb dX5_best_12 rfl (lv_at hl 0 rfl) ?_
        have hq3 := hp.1
        replace hp := hp.2
        refine k_calli (S := Unit) (wc := (W_X5 cI m0 m1 m2 m3 m4 m5 m6 m7 m8 m9 m10 m11 mr mc me mw mh mn mu ms mt md mz mi mk mo mj ml)) (wr := ([] : va_W)) (w1 := fun u => (W_X5 cI m0 m1 m2 m3 m4 m5 m6 m7 m8 m9 m10 m11 mr mc me mw mh mn mu ms mt md mz mi mk mo mj ml)) (fun u => (W_X5 cI m0 m1 m2 m3 m4 m5 m6 m7 m8 m9 m10 m11 mr mc me mw mh mn mu ms mt md mz mi mk mo mj ml)) hP hK hD hN hS hA [0, 1, 2, 3, 4, 5, 6, 7, 8, 9, 10, 11] [] rfl rfl (by decide) (by decide) (by decide) [0, 1, 2, 3, 4, 5, 6, 7, 8, 9, 10, 11] (by decide) (fun _ => rfl) (fun hg => va_runV (As := [.int v4_2]) (rest := [.int v4_1]) ⟨hx, hb, hml, hown, hts⟩ (c_X5_plausible l D cI m0 m1 m2 m3 m4 m5 m6 m7 m8 m9 m10 m11 mr mc me mw mh mn mu ms mt md mz mi mk mo mj ml _ v4_2 hq3) (cwV 1 hts gX5_best_X5_plausible rfl rfl rfl (by decide +kernel) ⟨Nat.le_of_ble_eq_true rfl, Nat.le_of_ble_eq_true rfl⟩) ⟨PW.blind, va_recv hK hP (ci := 5) (q0 := 0) rfl rfl, fun U hU hW => ⟨rfl, hg U hU hW⟩⟩ rfl rfl hl.1 rfl (lv_room (Nat.le_of_ble_eq_true rfl)) dX5_best_13 ⟨Nat.le_of_ble_eq_true rfl, Nat.le_of_ble_eq_true rfl⟩) (fun r3 u H locs hw hP hD hS => ?_)
        obtain ⟨hw, hb3⟩ := hw
        subst hw
        obtain ⟨j4, hJ4⟩ : ∃ z : Int32, z = (if (f_X5_plausible mr mn v4_2) = 0 then (0 : Int32) else (1 <<< (v4_2 &&& 31))) := ⟨_, rfl⟩
        rw [← hJ4] at he
        try dsimp only at he
        have hpJ4 := hp.1
        replace hp := hp.2 _  hJ4.symm
        have kont4 : ∀ (H : Heap) (locs : List Loc), va_P D vwCl (W_X5 cI m0 m1 m2 m3 m4 m5 m6 m7 m8 m9 m10 m11 mr mc me mw mh mn mu ms mt md mz mi mk mo mj ml) H → va_D A (W_X5 cI m0 m1 m2 m3 m4 m5 m6 m7 m8 m9 m10 m11 mr mc me mw mh mn mu ms mt md mz mi mk mo mj ml) → va_S A s.heap H locs → ∀ ls : Array Slot, lv_has ls 4 [(2, .int v4_2), (0, .ref m0)] → W p l e (headSpec wsX5_best rm_X5_best).room s m ([.ref m0] : List Value).toArray below meth c H locs 0 0 (MQ below (Q_X5_best D cI m0 m1 m2 m3 m4 m5 m6 m7 m8 m9 m10 m11 mr mc me mw mh mn mu ms mt md mz mi mk mo mj ml A) ([.ref m0] : List Value).toArray s 0 0 A) (F0 m 26 ls [.int j4, .int v4_1]) := by
          intro H locs hP hD hS ls hl
          refine lv_ior hx hb dX5_best_26 ?_
          refine lv_istore_n (lv' := [(1, .int (v4_1 ||| j4)), (2, .int v4_2), (0, .ref m0)]) hx hb dX5_best_27 rfl hl (by decide) rfl (fun ls hl => ?_)
          refine lv_iinc (v := (v4_2 + 1)) (lv' := [(2, .int (v4_2 + 1)), (1, .int (v4_1 ||| j4)), (0, .ref m0)]) hx hb dX5_best_28 hl (k := 1) rfl rfl (by decide) rfl (fun ls hl => ?_)
          refine lv_goto (tgt := 4) hx hb dX5_best_31 (by decide) ?_
          exact ih _ _ hp he _ _ hP hD hS _ (lv_sub hl [0, 1, 2] rfl)
        replace he := hJ4
        replace hp := hpJ4
        refine lv_if_eq (tgt := 25) hx hb dX5_best_16 (by decide) (fun c5 => ?_) (fun c5 => ?_)
        · replace hp := hp.1 c5
          replace he := he.trans (if_pos c5)
          refine lv_iconst (v := 0) hx hb dX5_best_25 (by decide) ?_
          subst he
          exact kont4 _ _ hP hD hS _ (lv_sub hl [0, 2] rfl)
        · replace hp := hp.2 c5
          replace he := he.trans (if_neg c5)
          refine lv_iconst (v := 1) hx hb dX5_best_19 (by decide) ?_
          refine lv_iload_n hx hb dX5_best_20 rfl (lv_at hl 0 rfl) ?_
          refine lv_ishl hx hb dX5_best_21 ?_
          refine lv_goto (tgt := 26) hx hb dX5_best_22 (by decide) ?_
          subst he
          exact kont4 _ _ hP hD hS _ (lv_sub hl [0, 2] rfl)
  exact loop1 15 (0 : Int32) (0 : Int32) hpL1 hL1 _ _ hP hD hS _ (lv_sub hl [0, 1, 2] rfl)
abbrev rm_X5_causes : Room := { frames := 3, cells := 0, slots := 0, locals := 69 }
abbrev Q_X5_causes (D : va_G) (cI : ClassId) (m0 m1 m2 m3 m4 m5 m6 m7 m8 m9 m10 m11 : Nat) (mr : Int32) (mc : Int32) (me : Int32) (mw : Int32) (mh : Int32) (mn : AA) (mu : AA) (ms : AA) (mt : AA) (md : AA) (mz : AA) (mi : AA) (mk : AA) (mo : AA) (mj : AA) (ml : AA) (A : Nat → Prop) : Array Value → State → Outcome → State → Prop := va_Qi (S := Int32) (fun r u => f_X5_causes mr mn mu = (r, u)) (fun u t => QW D [(cI, .int)] A (W_X5 cI m0 m1 m2 m3 m4 m5 m6 m7 m8 m9 m10 m11 mr mc me mw u mn mu ms mt md mz mi mk mo mj ml) t) A
set_option maxHeartbeats 4000000 in
set_option maxRecDepth 100000 in
theorem c_X5_causes (l : Launch)  (D : va_G) (cI : ClassId) (m0 m1 m2 m3 m4 m5 m6 m7 m8 m9 m10 m11 : Nat) (mr : Int32) (mc : Int32) (me : Int32) (mw : Int32) (mh : Int32) (mn : AA) (mu : AA) (ms : AA) (mt : AA) (md : AA) (mz : AA) (mi : AA) (mk : AA) (mo : AA) (mj : AA) (ml : AA) (sz : Nat) (hp : p_X5_causes mr mn mu) : Met l yX5_causes wsX5_causes rm_X5_causes (va_Pc [.ref m0] (PW D [(cI, .int)] sz (W_X5 cI m0 m1 m2 m3 m4 m5 m6 m7 m8 m9 m10 m11 mr mc me mw mh mn mu ms mt md mz mi mk mo mj ml))) (Q_X5_causes D cI m0 m1 m2 m3 m4 m5 m6 m7 m8 m9 m10 m11 mr mc me mw mh mn mu ms mt md mz mi mk mo mj ml (va_A (W_X5 cI m0 m1 m2 m3 m4 m5 m6 m7 m8 m9 m10 m11 mr mc me mw mh mn mu ms mt md mz mi mk mo mj ml) sz)) 0 0 (va_A (W_X5 cI m0 m1 m2 m3 m4 m5 m6 m7 m8 m9 m10 m11 mr mc me mw mh mn mu ms mt md mz mi mk mo mj ml) sz) := by
  refine Met.ofW (cc := cX5_causes) (maxL := 1) (ret := (some .int)) (by decide) rfl ?_
  intro p e s m args below meth c s₁ B hml hv
  obtain ⟨rfl, hsz, hP, hK, hD0, hN⟩ := hv
  have hx := B.exec
  have hb := B.bytes
  have hr := B.returns
  have hts := atoms_spec (ws := wsX5_causes) B.pre
  have hown : s.vm.findClass RX5 = some m.cls := findClass_of_methodNamed B.named
  have hlocks := B.notSynchronized
  subst hsz
  have hD := hD0.self (sz := s.heap.size)
  generalize hAe : va_A (W_X5 cI m0 m1 m2 m3 m4 m5 m6 m7 m8 m9 m10 m11 mr mc me mw mh mn mu ms mt md mz mi mk mo mj ml) s.heap.size = A at hD ⊢
  have hA : ∀ q : Nat, s.heap.size ≤ q → A q := fun q h => by rw [← hAe]; exact Or.inr h
  have hS : va_S A s.heap s.heap [] := va_S.rf
  have hl := lv_entry ([.ref m0]) (n := 1) (Nat.le_of_ble_eq_true rfl)
  rw [lg_entry_eq]
  generalize (lg_sl ([.ref m0]) ++ List.replicate (1 - (lg_sl ([.ref m0])).length) Slot.unset).toArray = ls at hl ⊢
  have hl : lv_has ls 1 [(0, .ref m0)] := hl
  have he := f_X5_causes.eq_1 mr mn mu
  replace hp := Eq.mp (p_X5_causes.eq_1 ..) hp
  refine lv_aload_n hx hb dX5_causes_0 rfl (lv_at hl 0 rfl) ?_
  refine lv_iconst (v := 0) hx hb dX5_causes_1 (by decide) ?_
  refine va_put (D := D) (ci := 5) (v := .int 0) (ty := .int) (C := RX5) (T := TX5) (N := 16) hx hb hts (by decide +kernel) tyX5 tyX5_ok nmX5 hown hK hP hD hS 0 rfl rfl 15 (by decide) (hts (.fieldLink RX5 43 "AlarmgroveModel" "thrown" "I") (by decide +kernel)) (fun _ h9 => h9) rfl (by decide +kernel) rfl rfl (Nat.le_of_ble_eq_true rfl) dX5_causes_2 (fun H locs hP hD hS => ?_)
  have hP : va_P D vwCl (W_X5 cI m0 m1 m2 m3 m4 m5 m6 m7 m8 m9 m10 m11 mr mc me mw 0 mn mu ms mt md mz mi mk mo mj ml) H := hP
  have hD : va_D A (W_X5 cI m0 m1 m2 m3 m4 m5 m6 m7 m8 m9 m10 m11 mr mc me mw 0 mn mu ms mt md mz mi mk mo mj ml) := hD
  refine lv_aload_n hx hb dX5_causes_5 rfl (lv_at hl 0 rfl) ?_
  have hq1 := hp.1
  replace hp := hp.2
  refine k_calli (S := Unit) (wc := (W_X5 cI m0 m1 m2 m3 m4 m5 m6 m7 m8 m9 m10 m11 mr mc me mw 0 mn mu ms mt md mz mi mk mo mj ml)) (wr := ([] : va_W)) (w1 := fun u => (W_X5 cI m0 m1 m2 m3 m4 m5 m6 m7 m8 m9 m10 m11 mr mc me mw 0 mn mu ms mt md mz mi mk mo mj ml)) (fun u => (W_X5 cI m0 m1 m2 m3 m4 m5 m6 m7 m8 m9 m10 m11 mr mc me mw 0 mn mu ms mt md mz mi mk mo mj ml)) hP hK hD hN hS hA [0, 1, 2, 3, 4, 5, 6, 7, 8, 9, 10, 11] [] rfl rfl (by decide) (by decide) (by decide) [0, 1, 2, 3, 4, 5, 6, 7, 8, 9, 10, 11] (by decide) (fun _ => rfl) (fun hg => va_runV (As := []) (rest := []) ⟨hx, hb, hml, hown, hts⟩ (c_X5_best l D cI m0 m1 m2 m3 m4 m5 m6 m7 m8 m9 m10 m11 mr mc me mw (0 : Int32) mn mu ms mt md mz mi mk mo mj ml _ hq1) (cwV 0 hts gX5_causes_X5_best rfl rfl rfl (by decide +kernel) ⟨Nat.le_of_ble_eq_true rfl, Nat.le_of_ble_eq_true rfl⟩) ⟨PW.blind, va_recv hK hP (ci := 5) (q0 := 0) rfl rfl, fun U hU hW => ⟨rfl, hg U hU hW⟩⟩ rfl rfl hl.1 rfl (lv_room (Nat.le_of_ble_eq_true rfl)) dX5_causes_6 ⟨Nat.le_of_ble_eq_true rfl, Nat.le_of_ble_eq_true rfl⟩) (fun r1 u H locs hw hP hD hS => ?_)
  subst hw
  have hq2 := hp.1
  replace hp := hp.2
  refine k_calli (S := Unit) (wc := ([] : va_W)) (wr := (W_X5 cI m0 m1 m2 m3 m4 m5 m6 m7 m8 m9 m10 m11 mr mc me mw 0 mn mu ms mt md mz mi mk mo mj ml)) (w1 := fun u => ([] : va_W)) (fun u => (W_X5 cI m0 m1 m2 m3 m4 m5 m6 m7 m8 m9 m10 m11 mr mc me mw 0 mn mu ms mt md mz mi mk mo mj ml)) hP hK hD hN hS hA [] [0, 1, 2, 3, 4, 5, 6, 7, 8, 9, 10, 11] rfl rfl (by decide) (by decide) (by decide) [0, 1, 2, 3, 4, 5, 6, 7, 8, 9, 10, 11] (by decide) (fun _ => rfl) (fun hg => va_runS (As := [.int (f_X5_best mr mn mu)]) (rest := []) ⟨hx, hb, hml, hown, hts⟩ (c_X5_count l D cI _ (f_X5_best mr mn mu) hq2) (va_cwS 1 hts gX5_causes_X5_count rfl rfl rfl (by decide +kernel) ⟨Nat.le_of_ble_eq_true rfl, Nat.le_of_ble_eq_true rfl⟩) ⟨PW.blind, fun U hU hW => ⟨rfl, hg U hU hW⟩⟩ rfl rfl hl.1 rfl (lv_room (Nat.le_of_ble_eq_true rfl)) dX5_causes_9 ⟨Nat.le_of_ble_eq_true rfl, Nat.le_of_ble_eq_true rfl⟩) (fun r2 u H locs hw hP hD hS => ?_)
  subst hw
  exact W.iret (v := (f_X5_count (f_X5_best mr mn mu))) hx hb hr (fun t ht hW => ⟨⟨(f_X5_count (f_X5_best mr mn mu)), 0, rfl, he, by rw [ht]; exact hP, va_K.moved hW.alike hK, hD⟩, hS.F ht⟩) hS.2.2 dX5_causes_12
abbrev rm_X5_cause : Room := { frames := 3, cells := 0, slots := 0, locals := 69 }
abbrev Q_X5_cause (D : va_G) (cI : ClassId) (m0 m1 m2 m3 m4 m5 m6 m7 m8 m9 m10 m11 : Nat) (mr : Int32) (mc : Int32) (me : Int32) (mw : Int32) (mh : Int32) (mn : AA) (mu : AA) (ms : AA) (mt : AA) (md : AA) (mz : AA) (mi : AA) (mk : AA) (mo : AA) (mj : AA) (ml : AA) (a1 : Int32) (A : Nat → Prop) : Array Value → State → Outcome → State → Prop := va_Qi (S := Int32) (fun r u => f_X5_cause mr mn mu a1 = (r, u)) (fun u t => QW D [(cI, .int)] A (W_X5 cI m0 m1 m2 m3 m4 m5 m6 m7 m8 m9 m10 m11 mr mc me mw u mn mu ms mt md mz mi mk mo mj ml) t) A
set_option maxHeartbeats 4000000 in
set_option maxRecDepth 100000 in
theorem c_X5_cause (l : Launch)  (D : va_G) (cI : ClassId) (m0 m1 m2 m3 m4 m5 m6 m7 m8 m9 m10 m11 : Nat) (mr : Int32) (mc : Int32) (me : Int32) (mw : Int32) (mh : Int32) (mn : AA) (mu : AA) (ms : AA) (mt : AA) (md : AA) (mz : AA) (mi : AA) (mk : AA) (mo : AA) (mj : AA) (ml : AA) (sz : Nat) (a1 : Int32) (hp : p_X5_cause mr mn mu a1) : Met l yX5_cause wsX5_cause rm_X5_cause (va_Pc [.ref m0, .int a1] (PW D [(cI, .int)] sz (W_X5 cI m0 m1 m2 m3 m4 m5 m6 m7 m8 m9 m10 m11 mr mc me mw mh mn mu ms mt md mz mi mk mo mj ml))) (Q_X5_cause D cI m0 m1 m2 m3 m4 m5 m6 m7 m8 m9 m10 m11 mr mc me mw mh mn mu ms mt md mz mi mk mo mj ml a1 (va_A (W_X5 cI m0 m1 m2 m3 m4 m5 m6 m7 m8 m9 m10 m11 mr mc me mw mh mn mu ms mt md mz mi mk mo mj ml) sz)) 0 0 (va_A (W_X5 cI m0 m1 m2 m3 m4 m5 m6 m7 m8 m9 m10 m11 mr mc me mw mh mn mu ms mt md mz mi mk mo mj ml) sz) := by
  refine Met.ofW (cc := cX5_cause) (maxL := 3) (ret := (some .int)) (by decide) rfl ?_
  intro p e s m args below meth c s₁ B hml hv
  obtain ⟨rfl, hsz, hP, hK, hD0, hN⟩ := hv
  have hx := B.exec
  have hb := B.bytes
  have hr := B.returns
  have hts := atoms_spec (ws := wsX5_cause) B.pre
  have hown : s.vm.findClass RX5 = some m.cls := findClass_of_methodNamed B.named
  have hlocks := B.notSynchronized
  subst hsz
  have hD := hD0.self (sz := s.heap.size)
  generalize hAe : va_A (W_X5 cI m0 m1 m2 m3 m4 m5 m6 m7 m8 m9 m10 m11 mr mc me mw mh mn mu ms mt md mz mi mk mo mj ml) s.heap.size = A at hD ⊢
  have hA : ∀ q : Nat, s.heap.size ≤ q → A q := fun q h => by rw [← hAe]; exact Or.inr h
  have hS : va_S A s.heap s.heap [] := va_S.rf
  have hl := lv_entry ([.ref m0, .int a1]) (n := 3) (Nat.le_of_ble_eq_true rfl)
  rw [lg_entry_eq]
  generalize (lg_sl ([.ref m0, .int a1]) ++ List.replicate (3 - (lg_sl ([.ref m0, .int a1])).length) Slot.unset).toArray = ls at hl ⊢
  have hl : lv_has ls 3 [(0, .ref m0), (1, .int a1)] := hl
  have he := f_X5_cause.eq_1 mr mn mu a1
  replace hp := Eq.mp (p_X5_cause.eq_1 ..) hp
  refine lv_aload_n hx hb dX5_cause_0 rfl (lv_at hl 0 rfl) ?_
  have hq1 := hp.1
  replace hp := hp.2
  refine k_calli (S := Unit) (wc := (W_X5 cI m0 m1 m2 m3 m4 m5 m6 m7 m8 m9 m10 m11 mr mc me mw mh mn mu ms mt md mz mi mk mo mj ml)) (wr := ([] : va_W)) (w1 := fun u => (W_X5 cI m0 m1 m2 m3 m4 m5 m6 m7 m8 m9 m10 m11 mr mc me mw mh mn mu ms mt md mz mi mk mo mj ml)) (fun u => (W_X5 cI m0 m1 m2 m3 m4 m5 m6 m7 m8 m9 m10 m11 mr mc me mw mh mn mu ms mt md mz mi mk mo mj ml)) hP hK hD hN hS hA [0, 1, 2, 3, 4, 5, 6, 7, 8, 9, 10, 11] [] rfl rfl (by decide) (by decide) (by decide) [0, 1, 2, 3, 4, 5, 6, 7, 8, 9, 10, 11] (by decide) (fun _ => rfl) (fun hg => va_runV (As := []) (rest := []) ⟨hx, hb, hml, hown, hts⟩ (c_X5_best l D cI m0 m1 m2 m3 m4 m5 m6 m7 m8 m9 m10 m11 mr mc me mw mh mn mu ms mt md mz mi mk mo mj ml _ hq1) (cwV 0 hts gX5_cause_X5_best rfl rfl rfl (by decide +kernel) ⟨Nat.le_of_ble_eq_true rfl, Nat.le_of_ble_eq_true rfl⟩) ⟨PW.blind, va_recv hK hP (ci := 5) (q0 := 0) rfl rfl, fun U hU hW => ⟨rfl, hg U hU hW⟩⟩ rfl rfl hl.1 rfl (lv_room (Nat.le_of_ble_eq_true rfl)) dX5_cause_1 ⟨Nat.le_of_ble_eq_true rfl, Nat.le_of_ble_eq_true rfl⟩) (fun r1 u H locs hw hP hD hS => ?_)
  subst hw
  refine lv_istore_n (lv' := [(2, .int (f_X5_best mr mn mu)), (0, .ref m0), (1, .int a1)]) hx hb dX5_cause_4 rfl hl (by decide) rfl (fun ls hl => ?_)
  refine lv_aload_n hx hb dX5_cause_5 rfl (lv_at hl 1 rfl) ?_
  refine lv_iload_n hx hb dX5_cause_6 rfl (lv_at hl 2 rfl) ?_
  obtain ⟨j2, hJ2⟩ : ∃ z : Int32, z = (if a1 < 0 then (0 : Int32) else (if (f_X5_count (f_X5_best mr mn mu)) ≤ a1 then (0 : Int32) else (1 : Int32))) := ⟨_, rfl⟩
  rw [← hJ2] at he
  try dsimp only at he
  have hpJ2 := hp.1
  replace hp := hp.2 _  hJ2.symm
  have kont2 : (j2 = 0 ∨ j2 = 1) → ∀ (H : Heap) (locs : List Loc), va_P D vwCl (W_X5 cI m0 m1 m2 m3 m4 m5 m6 m7 m8 m9 m10 m11 mr mc me mw mh mn mu ms mt md mz mi mk mo mj ml) H → va_D A (W_X5 cI m0 m1 m2 m3 m4 m5 m6 m7 m8 m9 m10 m11 mr mc me mw mh mn mu ms mt md mz mi mk mo mj ml) → va_S A s.heap H locs → ∀ ls : Array Slot, lv_has ls 3 [(2, .int (f_X5_best mr mn mu)), (1, .int a1)] → W p l e (headSpec wsX5_cause rm_X5_cause).room s m ([.ref m0, .int a1] : List Value).toArray below meth c H locs 0 0 (MQ below (Q_X5_cause D cI m0 m1 m2 m3 m4 m5 m6 m7 m8 m9 m10 m11 mr mc me mw mh mn mu ms mt md mz mi mk mo mj ml a1 A) ([.ref m0, .int a1] : List Value).toArray s 0 0 A) (F0 m 23 ls [.int j2, .ref m0]) := by
    intro hb2 H locs hP hD hS ls hl
    refine lv_iconst (v := 1) hx hb dX5_cause_23 (by decide) ?_
    refine k_calli (S := Int32) (wc := (W_X5 cI m0 m1 m2 m3 m4 m5 m6 m7 m8 m9 m10 m11 mr mc me mw mh mn mu ms mt md mz mi mk mo mj ml)) (wr := ([] : va_W)) (w1 := fun u => (W_X5 cI m0 m1 m2 m3 m4 m5 m6 m7 m8 m9 m10 m11 mr mc me mw u mn mu ms mt md mz mi mk mo mj ml)) (fun u => (W_X5 cI m0 m1 m2 m3 m4 m5 m6 m7 m8 m9 m10 m11 mr mc me mw u mn mu ms mt md mz mi mk mo mj ml)) hP hK hD hN hS hA [0, 1, 2, 3, 4, 5, 6, 7, 8, 9, 10, 11] [] rfl rfl (by decide) (by decide) (by decide) [0, 1, 2, 3, 4, 5, 6, 7, 8, 9, 10, 11] (by decide) (fun _ => rfl) (fun hg => va_runV (As := [.int j2, .int 1]) (rest := []) ⟨hx, hb, hml, hown, hts⟩ (c_X5_goes l D cI m0 m1 m2 m3 m4 m5 m6 m7 m8 m9 m10 m11 mr mc me mw mh mn mu ms mt md mz mi mk mo mj ml _ j2 1) (cwV 2 hts gX5_cause_X5_goes rfl rfl rfl (by decide +kernel) ⟨Nat.le_of_ble_eq_true rfl, Nat.le_of_ble_eq_true rfl⟩) ⟨PW.blind, va_recv hK hP (ci := 5) (q0 := 0) rfl rfl, fun U hU hW => ⟨rfl, hg U hU hW⟩⟩ rfl rfl hl.1 rfl (lv_room (Nat.le_of_ble_eq_true rfl)) dX5_cause_24 ⟨Nat.le_of_ble_eq_true rfl, Nat.le_of_ble_eq_true rfl⟩) (fun r6 u H locs hw hP hD hS => ?_)
    obtain ⟨u6_0, rfl⟩ : ∃ z, z = u := ⟨_, rfl⟩
    obtain ⟨hw, hb6⟩ := hw
    rw [hw] at he
    try dsimp only at he
    replace hp := hp r6 u6_0 hw
    have hP : va_P D vwCl (W_X5 cI m0 m1 m2 m3 m4 m5 m6 m7 m8 m9 m10 m11 mr mc me mw u6_0 mn mu ms mt md mz mi mk mo mj ml) H := hP
    have hD : va_D A (W_X5 cI m0 m1 m2 m3 m4 m5 m6 m7 m8 m9 m10 m11 mr mc me mw u6_0 mn mu ms mt md mz mi mk mo mj ml) := hD
    obtain ⟨j7, hJ7⟩ : ∃ z : Int32, z = (if r6 = 0 then (0 : Int32) else (f_X5_at (f_X5_best mr mn mu) a1)) := ⟨_, rfl⟩
    rw [← hJ7] at he
    try dsimp only at he
    have hpJ7 := hp.1
    replace hp := hp.2 _  hJ7.symm
    have kont7 : ∀ (H : Heap) (locs : List Loc), va_P D vwCl (W_X5 cI m0 m1 m2 m3 m4 m5 m6 m7 m8 m9 m10 m11 mr mc me mw u6_0 mn mu ms mt md mz mi mk mo mj ml) H → va_D A (W_X5 cI m0 m1 m2 m3 m4 m5 m6 m7 m8 m9 m10 m11 mr mc me mw u6_0 mn mu ms mt md mz mi mk mo mj ml) → va_S A s.heap H locs → ∀ ls : Array Slot, lv_has ls 3 [] → W p l e (headSpec wsX5_cause rm_X5_cause).room s m ([.ref m0, .int a1] : List Value).toArray below meth c H locs 0 0 (MQ below (Q_X5_cause D cI m0 m1 m2 m3 m4 m5 m6 m7 m8 m9 m10 m11 mr mc me mw mh mn mu ms mt md mz mi mk mo mj ml a1 A) ([.ref m0, .int a1] : List Value).toArray s 0 0 A) (F0 m 39 ls [.int j7]) := by
      intro H locs hP hD hS ls hl
      exact W.iret (v := j7) hx hb hr (fun t ht hW => ⟨⟨j7, u6_0, rfl, he, by rw [ht]; exact hP, va_K.moved hW.alike hK, hD⟩, hS.F ht⟩) hS.2.2 dX5_cause_39
    replace he := hJ7
    replace hp := hpJ7
    refine lv_if_eq (tgt := 38) hx hb dX5_cause_27 (by decide) (fun c8 => ?_) (fun c8 => ?_)
    · replace hp := hp.1 c8
      replace he := he.trans (if_pos c8)
      refine lv_iconst (v := 0) hx hb dX5_cause_38 (by decide) ?_
      subst he
      exact kont7 _ _ hP hD hS _ (lv_sub hl [] rfl)
    · replace hp := hp.2 c8
      replace he := he.trans (if_neg c8)
      refine lv_iload_n hx hb dX5_cause_30 rfl (lv_at hl 0 rfl) ?_
      refine lv_iload_n hx hb dX5_cause_31 rfl (lv_at hl 1 rfl) ?_
      have hq9 := hp.1
      replace hp := hp.2
      refine k_calli (S := Unit) (wc := ([] : va_W)) (wr := (W_X5 cI m0 m1 m2 m3 m4 m5 m6 m7 m8 m9 m10 m11 mr mc me mw u6_0 mn mu ms mt md mz mi mk mo mj ml)) (w1 := fun u => ([] : va_W)) (fun u => (W_X5 cI m0 m1 m2 m3 m4 m5 m6 m7 m8 m9 m10 m11 mr mc me mw u6_0 mn mu ms mt md mz mi mk mo mj ml)) hP hK hD hN hS hA [] [0, 1, 2, 3, 4, 5, 6, 7, 8, 9, 10, 11] rfl rfl (by decide) (by decide) (by decide) [0, 1, 2, 3, 4, 5, 6, 7, 8, 9, 10, 11] (by decide) (fun _ => rfl) (fun hg => va_runS (As := [.int (f_X5_best mr mn mu), .int a1]) (rest := []) ⟨hx, hb, hml, hown, hts⟩ (c_X5_at l D cI _ (f_X5_best mr mn mu) a1 hq9) (va_cwS 2 hts gX5_cause_X5_at rfl rfl rfl (by decide +kernel) ⟨Nat.le_of_ble_eq_true rfl, Nat.le_of_ble_eq_true rfl⟩) ⟨PW.blind, fun U hU hW => ⟨rfl, hg U hU hW⟩⟩ rfl rfl hl.1 rfl (lv_room (Nat.le_of_ble_eq_true rfl)) dX5_cause_32 ⟨Nat.le_of_ble_eq_true rfl, Nat.le_of_ble_eq_true rfl⟩) (fun r9 u H locs hw hP hD hS => ?_)
      subst hw
      refine lv_goto (tgt := 39) hx hb dX5_cause_35 (by decide) ?_
      subst he
      exact kont7 _ _ hP hD hS _ (lv_sub hl [] rfl)
  replace he := hJ2
  replace hp := hpJ2
  refine lv_if_lt (tgt := 22) hx hb dX5_cause_7 (by decide) (fun c3 => ?_) (fun c3 => ?_)
  · replace hp := hp.1 c3
    replace he := he.trans (if_pos c3)
    refine lv_iconst (v := 0) hx hb dX5_cause_22 (by decide) ?_
    subst he
    exact kont2 (Or.inl rfl) _ _ hP hD hS _ (lv_sub hl [0, 2] rfl)
  · replace hp := hp.2 c3
    replace he := he.trans (if_neg c3)
    refine lv_iload_n hx hb dX5_cause_10 rfl (lv_at hl 2 rfl) ?_
    refine lv_iload_n hx hb dX5_cause_11 rfl (lv_at hl 0 rfl) ?_
    have hq4 := hp.1
    replace hp := hp.2
    refine k_calli (S := Unit) (wc := ([] : va_W)) (wr := (W_X5 cI m0 m1 m2 m3 m4 m5 m6 m7 m8 m9 m10 m11 mr mc me mw mh mn mu ms mt md mz mi mk mo mj ml)) (w1 := fun u => ([] : va_W)) (fun u => (W_X5 cI m0 m1 m2 m3 m4 m5 m6 m7 m8 m9 m10 m11 mr mc me mw mh mn mu ms mt md mz mi mk mo mj ml)) hP hK hD hN hS hA [] [0, 1, 2, 3, 4, 5, 6, 7, 8, 9, 10, 11] rfl rfl (by decide) (by decide) (by decide) [0, 1, 2, 3, 4, 5, 6, 7, 8, 9, 10, 11] (by decide) (fun _ => rfl) (fun hg => va_runS (As := [.int (f_X5_best mr mn mu)]) (rest := [.int a1, .ref m0]) ⟨hx, hb, hml, hown, hts⟩ (c_X5_count l D cI _ (f_X5_best mr mn mu) hq4) (va_cwS 1 hts gX5_cause_X5_count rfl rfl rfl (by decide +kernel) ⟨Nat.le_of_ble_eq_true rfl, Nat.le_of_ble_eq_true rfl⟩) ⟨PW.blind, fun U hU hW => ⟨rfl, hg U hU hW⟩⟩ rfl rfl hl.1 rfl (lv_room (Nat.le_of_ble_eq_true rfl)) dX5_cause_12 ⟨Nat.le_of_ble_eq_true rfl, Nat.le_of_ble_eq_true rfl⟩) (fun r4 u H locs hw hP hD hS => ?_)
    subst hw
    refine lv_icmp_ge (tgt := 22) hx hb dX5_cause_15 (by decide) (fun c5 => ?_) (fun c5 => ?_)
    · replace hp := hp.1 c5
      replace he := he.trans (if_pos c5)
      refine lv_iconst (v := 0) hx hb dX5_cause_22 (by decide) ?_
      subst he
      exact kont2 (Or.inl rfl) _ _ hP hD hS _ (lv_sub hl [0, 2] rfl)
    · replace hp := hp.2 c5
      replace he := he.trans (if_neg c5)
      refine lv_iconst (v := 1) hx hb dX5_cause_18 (by decide) ?_
      refine lv_goto (tgt := 23) hx hb dX5_cause_19 (by decide) ?_
      subst he
      exact kont2 (Or.inr rfl) _ _ hP hD hS _ (lv_sub hl [0, 2] rfl)
abbrev rm_X5_causeByTrying : Room := { frames := 4, cells := 0, slots := 0, locals := 91 }
abbrev Q_X5_causeByTrying (D : va_G) (cI : ClassId) (m0 m1 m2 m3 m4 m5 m6 m7 m8 m9 m10 m11 : Nat) (mr : Int32) (mc : Int32) (me : Int32) (mw : Int32) (mh : Int32) (mn : AA) (mu : AA) (ms : AA) (mt : AA) (md : AA) (mz : AA) (mi : AA) (mk : AA) (mo : AA) (mj : AA) (ml : AA) (a1 : Int32) (A : Nat → Prop) : Array Value → State → Outcome → State → Prop := va_Qi (S := Int32) (fun r u => f_X5_causeByTrying mr mn mu a1 = (r, u)) (fun u t => QW D [(cI, .int)] A (W_X5 cI m0 m1 m2 m3 m4 m5 m6 m7 m8 m9 m10 m11 mr mc me mw u mn mu ms mt md mz mi mk mo mj ml) t) A
set_option maxHeartbeats 4000000 in
set_option maxRecDepth 100000 in
theorem c_X5_causeByTrying (l : Launch)  (D : va_G) (cI : ClassId) (m0 m1 m2 m3 m4 m5 m6 m7 m8 m9 m10 m11 : Nat) (mr : Int32) (mc : Int32) (me : Int32) (mw : Int32) (mh : Int32) (mn : AA) (mu : AA) (ms : AA) (mt : AA) (md : AA) (mz : AA) (mi : AA) (mk : AA) (mo : AA) (mj : AA) (ml : AA) (sz : Nat) (a1 : Int32) (hp : p_X5_causeByTrying mr mn mu a1) : Met l yX5_causeByTrying wsX5_causeByTrying rm_X5_causeByTrying (va_Pc [.ref m0, .int a1] (PW D [(cI, .int)] sz (W_X5 cI m0 m1 m2 m3 m4 m5 m6 m7 m8 m9 m10 m11 mr mc me mw mh mn mu ms mt md mz mi mk mo mj ml))) (Q_X5_causeByTrying D cI m0 m1 m2 m3 m4 m5 m6 m7 m8 m9 m10 m11 mr mc me mw mh mn mu ms mt md mz mi mk mo mj ml a1 (va_A (W_X5 cI m0 m1 m2 m3 m4 m5 m6 m7 m8 m9 m10 m11 mr mc me mw mh mn mu ms mt md mz mi mk mo mj ml) sz)) 0 0 (va_A (W_X5 cI m0 m1 m2 m3 m4 m5 m6 m7 m8 m9 m10 m11 mr mc me mw mh mn mu ms mt md mz mi mk mo mj ml) sz) := by
  refine Met.ofW (cc := cX5_causeByTrying) (maxL := 2) (ret := (some .int)) (by decide) rfl ?_
  intro p e s m args below meth c s₁ B hml hv
  obtain ⟨rfl, hsz, hP, hK, hD0, hN⟩ := hv
  have hx := B.exec
  have hb := B.bytes
  have hr := B.returns
  have hts := atoms_spec (ws := wsX5_causeByTrying) B.pre
  have hown : s.vm.findClass RX5 = some m.cls := findClass_of_methodNamed B.named
  have hlocks := B.notSynchronized
  subst hsz
  have hD := hD0.self (sz := s.heap.size)
  generalize hAe : va_A (W_X5 cI m0 m1 m2 m3 m4 m5 m6 m7 m8 m9 m10 m11 mr mc me mw mh mn mu ms mt md mz mi mk mo mj ml) s.heap.size = A at hD ⊢
  have hA : ∀ q : Nat, s.heap.size ≤ q → A q := fun q h => by rw [← hAe]; exact Or.inr h
  have hS : va_S A s.heap s.heap [] := va_S.rf
  have hl := lv_entry ([.ref m0, .int a1]) (n := 2) (Nat.le_of_ble_eq_true rfl)
  rw [lg_entry_eq]
  generalize (lg_sl ([.ref m0, .int a1]) ++ List.replicate (2 - (lg_sl ([.ref m0, .int a1])).length) Slot.unset).toArray = ls at hl ⊢
  have hl : lv_has ls 2 [(0, .ref m0), (1, .int a1)] := hl
  have he := f_X5_causeByTrying.eq_1 mr mn mu a1
  replace hp := Eq.mp (p_X5_causeByTrying.eq_1 ..) hp
  refine lv_aload_n hx hb dX5_causeByTrying_0 rfl (lv_at hl 0 rfl) ?_
  refine lv_iload_n hx hb dX5_causeByTrying_1 rfl (lv_at hl 1 rfl) ?_
  have hq1 := hp.1
  replace hp := hp.2
  refine k_calli (S := Int32) (wc := (W_X5 cI m0 m1 m2 m3 m4 m5 m6 m7 m8 m9 m10 m11 mr mc me mw mh mn mu ms mt md mz mi mk mo mj ml)) (wr := ([] : va_W)) (w1 := fun u => (W_X5 cI m0 m1 m2 m3 m4 m5 m6 m7 m8 m9 m10 m11 mr mc me mw u mn mu ms mt md mz mi mk mo mj ml)) (fun u => (W_X5 cI m0 m1 m2 m3 m4 m5 m6 m7 m8 m9 m10 m11 mr mc me mw u mn mu ms mt md mz mi mk mo mj ml)) hP hK hD hN hS hA [0, 1, 2, 3, 4, 5, 6, 7, 8, 9, 10, 11] [] rfl rfl (by decide) (by decide) (by decide) [0, 1, 2, 3, 4, 5, 6, 7, 8, 9, 10, 11] (by decide) (fun _ => rfl) (fun hg => va_runV (As := [.int a1]) (rest := []) ⟨hx, hb, hml, hown, hts⟩ (c_X5_cause l D cI m0 m1 m2 m3 m4 m5 m6 m7 m8 m9 m10 m11 mr mc me mw mh mn mu ms mt md mz mi mk mo mj ml _ a1 hq1) (cwV 1 hts gX5_causeByTrying_X5_cause rfl rfl rfl (by decide +kernel) ⟨Nat.le_of_ble_eq_true rfl, Nat.le_of_ble_eq_true rfl⟩) ⟨PW.blind, va_recv hK hP (ci := 5) (q0 := 0) rfl rfl, fun U hU hW => ⟨rfl, hg U hU hW⟩⟩ rfl rfl hl.1 rfl (lv_room (Nat.le_of_ble_eq_true rfl)) dX5_causeByTrying_2 ⟨Nat.le_of_ble_eq_true rfl, Nat.le_of_ble_eq_true rfl⟩) (fun r1 u H locs hw hP hD hS => ?_)
  obtain ⟨u1_0, rfl⟩ : ∃ z, z = u := ⟨_, rfl⟩
  rw [hw] at he
  try dsimp only at he
  replace hp := hp r1 u1_0 hw
  have hP : va_P D vwCl (W_X5 cI m0 m1 m2 m3 m4 m5 m6 m7 m8 m9 m10 m11 mr mc me mw u1_0 mn mu ms mt md mz mi mk mo mj ml) H := hP
  have hD : va_D A (W_X5 cI m0 m1 m2 m3 m4 m5 m6 m7 m8 m9 m10 m11 mr mc me mw u1_0 mn mu ms mt md mz mi mk mo mj ml) := hD
  exact W.iret (v := r1) hx hb hr (fun t ht hW => ⟨⟨r1, u1_0, rfl, he, by rw [ht]; exact hP, va_K.moved hW.alike hK, hD⟩, hS.F ht⟩) hS.2.2 dX5_causeByTrying_5
abbrev rm_X5_joins : Room := { frames := 2, cells := 0, slots := 0, locals := 44 }
abbrev Q_X5_joins (D : va_G) (cI : ClassId) (m0 m1 m2 m3 m4 m5 m6 m7 m8 m9 m10 m11 : Nat) (mr : Int32) (mc : Int32) (me : Int32) (mw : Int32) (mh : Int32) (mn : AA) (mu : AA) (ms : AA) (mt : AA) (md : AA) (mz : AA) (mi : AA) (mk : AA) (mo : AA) (mj : AA) (ml : AA) (a1 : Int32) (A : Nat → Prop) : Array Value → State → Outcome → State → Prop := va_Qi (S := Unit) (fun r u => f_X5_joins mr mn mu a1 = r) (fun u t => QW D [(cI, .int)] A (W_X5 cI m0 m1 m2 m3 m4 m5 m6 m7 m8 m9 m10 m11 mr mc me mw mh mn mu ms mt md mz mi mk mo mj ml) t) A
set_option maxHeartbeats 4000000 in
set_option maxRecDepth 100000 in
theorem c_X5_joins (l : Launch)  (D : va_G) (cI : ClassId) (m0 m1 m2 m3 m4 m5 m6 m7 m8 m9 m10 m11 : Nat) (mr : Int32) (mc : Int32) (me : Int32) (mw : Int32) (mh : Int32) (mn : AA) (mu : AA) (ms : AA) (mt : AA) (md : AA) (mz : AA) (mi : AA) (mk : AA) (mo : AA) (mj : AA) (ml : AA) (sz : Nat) (a1 : Int32) (hp : p_X5_joins mr mn mu a1) : Met l yX5_joins wsX5_joins rm_X5_joins (va_Pc [.ref m0, .int a1] (PW D [(cI, .int)] sz (W_X5 cI m0 m1 m2 m3 m4 m5 m6 m7 m8 m9 m10 m11 mr mc me mw mh mn mu ms mt md mz mi mk mo mj ml))) (Q_X5_joins D cI m0 m1 m2 m3 m4 m5 m6 m7 m8 m9 m10 m11 mr mc me mw mh mn mu ms mt md mz mi mk mo mj ml a1 (va_A (W_X5 cI m0 m1 m2 m3 m4 m5 m6 m7 m8 m9 m10 m11 mr mc me mw mh mn mu ms mt md mz mi mk mo mj ml) sz)) 0 0 (va_A (W_X5 cI m0 m1 m2 m3 m4 m5 m6 m7 m8 m9 m10 m11 mr mc me mw mh mn mu ms mt md mz mi mk mo mj ml) sz) := by
  refine Met.ofW (cc := cX5_joins) (maxL := 7) (ret := (some .int)) (by decide) rfl ?_
  intro p e s m args below meth c s₁ B hml hv
  obtain ⟨rfl, hsz, hP, hK, hD0, hN⟩ := hv
  have hx := B.exec
  have hb := B.bytes
  have hr := B.returns
  have hts := atoms_spec (ws := wsX5_joins) B.pre
  have hown : s.vm.findClass RX5 = some m.cls := findClass_of_methodNamed B.named
  have hlocks := B.notSynchronized
  subst hsz
  have hD := hD0.self (sz := s.heap.size)
  generalize hAe : va_A (W_X5 cI m0 m1 m2 m3 m4 m5 m6 m7 m8 m9 m10 m11 mr mc me mw mh mn mu ms mt md mz mi mk mo mj ml) s.heap.size = A at hD ⊢
  have hA : ∀ q : Nat, s.heap.size ≤ q → A q := fun q h => by rw [← hAe]; exact Or.inr h
  have hS : va_S A s.heap s.heap [] := va_S.rf
  have hl := lv_entry ([.ref m0, .int a1]) (n := 7) (Nat.le_of_ble_eq_true rfl)
  rw [lg_entry_eq]
  generalize (lg_sl ([.ref m0, .int a1]) ++ List.replicate (7 - (lg_sl ([.ref m0, .int a1])).length) Slot.unset).toArray = ls at hl ⊢
  have hl : lv_has ls 7 [(0, .ref m0), (1, .int a1)] := hl
  have he := f_X5_joins.eq_1 mr mn mu a1
  replace hp := Eq.mp (p_X5_joins.eq_1 ..) hp
  refine lv_iconst (v := (-1)) hx hb dX5_joins_0 (by decide) ?_
  refine lv_istore_n (lv' := [(2, .int (-1)), (0, .ref m0), (1, .int a1)]) hx hb dX5_joins_1 rfl hl (by decide) rfl (fun ls hl => ?_)
  refine lv_iconst (v := 0) hx hb dX5_joins_2 (by decide) ?_
  refine lv_istore_n (lv' := [(3, .int 0), (2, .int (-1)), (0, .ref m0), (1, .int a1)]) hx hb dX5_joins_3 rfl hl (by decide) rfl (fun ls hl => ?_)
  refine lv_iconst (v := 0) hx hb dX5_joins_4 (by decide) ?_
  refine lv_istore (lv' := [(4, .int 0), (3, .int 0), (2, .int (-1)), (0, .ref m0), (1, .int a1)]) hx hb dX5_joins_5 hl (by decide) rfl (fun ls hl => ?_)
  obtain ⟨⟨r1_v7_2, r1_v7_3, r1_v7_4⟩, hL1⟩ : ∃ z, z = f_X5_joins_L7 mr mn mu a1 15 ((-1) : Int32) (0 : Int32) (0 : Int32) := ⟨_, rfl⟩
  rw [← hL1] at he
  try dsimp only at he
  have hpL1 := hp.1
  replace hp := hp.2 _ _ _ hL1.symm
  have kont1 : ∀ (x1_v7_2 : Int32) (x1_v7_3 : Int32) (x1_v7_4 : Int32), (r1_v7_2, r1_v7_3, r1_v7_4) = (x1_v7_2, x1_v7_3, x1_v7_4) → ∀ (H : Heap) (locs : List Loc), va_P D vwCl (W_X5 cI m0 m1 m2 m3 m4 m5 m6 m7 m8 m9 m10 m11 mr mc me mw mh mn mu ms mt md mz mi mk mo mj ml) H → va_D A (W_X5 cI m0 m1 m2 m3 m4 m5 m6 m7 m8 m9 m10 m11 mr mc me mw mh mn mu ms mt md mz mi mk mo mj ml) → va_S A s.heap H locs → ∀ ls : Array Slot, lv_has ls 7 [(2, .int x1_v7_2)] → W p l e (headSpec wsX5_joins rm_X5_joins).room s m ([.ref m0, .int a1] : List Value).toArray below meth c H locs 0 0 (MQ below (Q_X5_joins D cI m0 m1 m2 m3 m4 m5 m6 m7 m8 m9 m10 m11 mr mc me mw mh mn mu ms mt md mz mi mk mo mj ml a1 A) ([.ref m0, .int a1] : List Value).toArray s 0 0 A) (F0 m 117 ls []) := by
    intro x1_v7_2 x1_v7_3 x1_v7_4 hxe H locs hP hD hS ls hl
    simp only [Prod.mk.injEq] at hxe
    obtain ⟨rfl, rfl, rfl⟩ := hxe
    refine lv_iload_n hx hb dX5_joins_117 rfl (lv_at hl 0 rfl) ?_
    exact W.iret (v := r1_v7_2) hx hb hr (fun t ht hW => ⟨⟨r1_v7_2, (), rfl, he, by rw [ht]; exact hP, va_K.moved hW.alike hK, hD⟩, hS.F ht⟩) hS.2.2 dX5_joins_118
  have loop1 : ∀ (n : Nat) (v7_2 : Int32) (v7_3 : Int32) (v7_4 : Int32), p_X5_joins_L7 mr mn mu a1 n v7_2 v7_3 v7_4 → (r1_v7_2, r1_v7_3, r1_v7_4) = f_X5_joins_L7 mr mn mu a1 n v7_2 v7_3 v7_4 → ∀ (H : Heap) (locs : List Loc), va_P D vwCl (W_X5 cI m0 m1 m2 m3 m4 m5 m6 m7 m8 m9 m10 m11 mr mc me mw mh mn mu ms mt md mz mi mk mo mj ml) H → va_D A (W_X5 cI m0 m1 m2 m3 m4 m5 m6 m7 m8 m9 m10 m11 mr mc me mw mh mn mu ms mt md mz mi mk mo mj ml) → va_S A s.heap H locs → ∀ ls : Array Slot, lv_has ls 7 [(4, .int v7_4), (3, .int v7_3), (2, .int v7_2), (0, .ref m0), (1, .int a1)] → W p l e (headSpec wsX5_joins rm_X5_joins).room s m ([.ref m0, .int a1] : List Value).toArray below meth c H locs 0 0 (MQ below (Q_X5_joins D cI m0 m1 m2 m3 m4 m5 m6 m7 m8 m9 m10 m11 mr mc me mw mh mn mu ms mt md mz mi mk mo mj ml a1 A) ([.ref m0, .int a1] : List Value).toArray s 0 0 A) (F0 m 7 ls []) := by
    intro n
    induction n with
    | zero => exact fun _ _ _ hp => hp.elim
    | succ n ih =>
      intro v7_2 v7_3 v7_4 hp he H locs hP hD hS ls hl
      replace hp := Eq.mp (p_X5_joins_L7.eq_2 ..) hp
      replace he := he.trans (f_X5_joins_L7.eq_2 ..)
      refine lv_iload hx hb dX5_joins_7 (lv_at hl 0 rfl) ?_
      refine lv_bipush (v := 14) hx hb dX5_joins_9 (by decide) ?_
      refine lv_icmp_ge (tgt := 117) hx hb dX5_joins_11 (by decide) (fun c2 => ?_) (fun c2 => ?_)
      · replace hp := hp.1 c2
        replace he := he.trans (if_pos c2)
        exact kont1 _ _ _ he _ _ hP hD hS _ (lv_sub hl [2] rfl)
      · replace hp := hp.2 c2
        replace he := he.trans (if_neg c2)
        refine lv_aload_n hx hb dX5_joins_14 rfl (lv_at hl 3 rfl) ?_
        refine lv_iload hx hb dX5_joins_15 (lv_at hl 0 rfl) ?_
        have hq3 := hp.1
        replace hp := hp.2
        refine k_calli (S := Unit) (wc := (W_X5 cI m0 m1 m2 m3 m4 m5 m6 m7 m8 m9 m10 m11 mr mc me mw mh mn mu ms mt md mz mi mk mo mj ml)) (wr := ([] : va_W)) (w1 := fun u => (W_X5 cI m0 m1 m2 m3 m4 m5 m6 m7 m8 m9 m10 m11 mr mc me mw mh mn mu ms mt md mz mi mk mo mj ml)) (fun u => (W_X5 cI m0 m1 m2 m3 m4 m5 m6 m7 m8 m9 m10 m11 mr mc me mw mh mn mu ms mt md mz mi mk mo mj ml)) hP hK hD hN hS hA [0, 1, 2, 3, 4, 5, 6, 7, 8, 9, 10, 11] [] rfl rfl (by decide) (by decide) (by decide) [0, 1, 2, 3, 4, 5, 6, 7, 8, 9, 10, 11] (by decide) (fun _ => rfl) (fun hg => va_runV (As := [.int v7_4]) (rest := []) ⟨hx, hb, hml, hown, hts⟩ (c_X5_plausible l D cI m0 m1 m2 m3 m4 m5 m6 m7 m8 m9 m10 m11 mr mc me mw mh mn mu ms mt md mz mi mk mo mj ml _ v7_4 hq3) (cwV 1 hts gX5_joins_X5_plausible rfl rfl rfl (by decide +kernel) ⟨Nat.le_of_ble_eq_true rfl, Nat.le_of_ble_eq_true rfl⟩) ⟨PW.blind, va_recv hK hP (ci := 5) (q0 := 0) rfl rfl, fun U hU hW => ⟨rfl, hg U hU hW⟩⟩ rfl rfl hl.1 rfl (lv_room (Nat.le_of_ble_eq_true rfl)) dX5_joins_17 ⟨Nat.le_of_ble_eq_true rfl, Nat.le_of_ble_eq_true rfl⟩) (fun r3 u H locs hw hP hD hS => ?_)
        obtain ⟨hw, hb3⟩ := hw
        subst hw
        obtain ⟨j4, hJ4⟩ : ∃ z : Int32, z = (if (f_X5_plausible mr mn v7_4) = 0 then (0 : Int32) else (f_X5_count ((f_X5_explains mu v7_4) &&& a1))) := ⟨_, rfl⟩
        rw [← hJ4] at he
        try dsimp only at he
        have hpJ4 := hp.1
        replace hp := hp.2 _  hJ4.symm
        have kont4 : ∀ (H : Heap) (locs : List Loc), va_P D vwCl (W_X5 cI m0 m1 m2 m3 m4 m5 m6 m7 m8 m9 m10 m11 mr mc me mw mh mn mu ms mt md mz mi mk mo mj ml) H → va_D A (W_X5 cI m0 m1 m2 m3 m4 m5 m6 m7 m8 m9 m10 m11 mr mc me mw mh mn mu ms mt md mz mi mk mo mj ml) → va_S A s.heap H locs → ∀ ls : Array Slot, lv_has ls 7 [(4, .int v7_4), (3, .int v7_3), (2, .int v7_2), (0, .ref m0), (1, .int a1)] → W p l e (headSpec wsX5_joins rm_X5_joins).room s m ([.ref m0, .int a1] : List Value).toArray below meth c H locs 0 0 (MQ below (Q_X5_joins D cI m0 m1 m2 m3 m4 m5 m6 m7 m8 m9 m10 m11 mr mc me mw mh mn mu ms mt md mz mi mk mo mj ml a1 A) ([.ref m0, .int a1] : List Value).toArray s 0 0 A) (F0 m 38 ls [.int j4]) := by
          intro H locs hP hD hS ls hl
          refine lv_istore (lv' := [(5, .int j4), (4, .int v7_4), (3, .int v7_3), (2, .int v7_2), (0, .ref m0), (1, .int a1)]) hx hb dX5_joins_38 hl (by decide) rfl (fun ls hl => ?_)
          refine lv_iload hx hb dX5_joins_40 (lv_at hl 0 rfl) ?_
          refine lv_iload_n hx hb dX5_joins_42 rfl (lv_at hl 2 rfl) ?_
          obtain ⟨j8, hJ8⟩ : ∃ z : Int32, z = (if v7_3 < j4 then (1 : Int32) else (if j4 = v7_3 then (if j4 ≤ 0 then (0 : Int32) else (if (f_X5_has mr v7_4) = 0 then (0 : Int32) else (if (f_X5_has mr v7_2) = 0 then (1 : Int32) else (0 : Int32)))) else (0 : Int32))) := ⟨_, rfl⟩
          rw [← hJ8] at he
          try dsimp only at he
          have hpJ8 := hp.1
          replace hp := hp.2 _  hJ8.symm
          have kont8 : (j8 = 0 ∨ j8 = 1) → ∀ (H : Heap) (locs : List Loc), va_P D vwCl (W_X5 cI m0 m1 m2 m3 m4 m5 m6 m7 m8 m9 m10 m11 mr mc me mw mh mn mu ms mt md mz mi mk mo mj ml) H → va_D A (W_X5 cI m0 m1 m2 m3 m4 m5 m6 m7 m8 m9 m10 m11 mr mc me mw mh mn mu ms mt md mz mi mk mo mj ml) → va_S A s.heap H locs → ∀ ls : Array Slot, lv_has ls 7 [(5, .int j4), (4, .int v7_4), (3, .int v7_3), (2, .int v7_2), (0, .ref m0), (1, .int a1)] → W p l e (headSpec wsX5_joins rm_X5_joins).room s m ([.ref m0, .int a1] : List Value).toArray below meth c H locs 0 0 (MQ below (Q_X5_joins D cI m0 m1 m2 m3 m4 m5 m6 m7 m8 m9 m10 m11 mr mc me mw mh mn mu ms mt md mz mi mk mo mj ml a1 A) ([.ref m0, .int a1] : List Value).toArray s 0 0 A) (F0 m 85 ls [.int j8]) := by
            intro hb8 H locs hP hD hS ls hl
            refine lv_istore (lv' := [(6, .int j8), (5, .int j4), (4, .int v7_4), (3, .int v7_3), (2, .int v7_2), (0, .ref m0), (1, .int a1)]) hx hb dX5_joins_85 hl (by decide) rfl (fun ls hl => ?_)
            refine lv_iload hx hb dX5_joins_87 (lv_at hl 0 rfl) ?_
            obtain ⟨j16, hJ16⟩ : ∃ z : Int32, z = (if j8 = 0 then v7_2 else v7_4) := ⟨_, rfl⟩
            rw [← hJ16] at he
            try dsimp only at he
            have hpJ16 := hp.1
            replace hp := hp.2 _  hJ16.symm
            have kont16 : ∀ (H : Heap) (locs : List Loc), va_P D vwCl (W_X5 cI m0 m1 m2 m3 m4 m5 m6 m7 m8 m9 m10 m11 mr mc me mw mh mn mu ms mt md mz mi mk mo mj ml) H → va_D A (W_X5 cI m0 m1 m2 m3 m4 m5 m6 m7 m8 m9 m10 m11 mr mc me mw mh mn mu ms mt md mz mi mk mo mj ml) → va_S A s.heap H locs → ∀ ls : Array Slot, lv_has ls 7 [(6, .int j8), (5, .int j4), (4, .int v7_4), (3, .int v7_3), (0, .ref m0), (1, .int a1)] → W p l e (headSpec wsX5_joins rm_X5_joins).room s m ([.ref m0, .int a1] : List Value).toArray below meth c H locs 0 0 (MQ below (Q_X5_joins D cI m0 m1 m2 m3 m4 m5 m6 m7 m8 m9 m10 m11 mr mc me mw mh mn mu ms mt md mz mi mk mo mj ml a1 A) ([.ref m0, .int a1] : List Value).toArray s 0 0 A) (F0 m 98 ls [.int j16]) := by
              intro H locs hP hD hS ls hl
              refine lv_istore_n (lv' := [(2, .int j16), (6, .int j8), (5, .int j4), (4, .int v7_4), (3, .int v7_3), (0, .ref m0), (1, .int a1)]) hx hb dX5_joins_98 rfl hl (by decide) rfl (fun ls hl => ?_)
              refine lv_iload hx hb dX5_joins_99 (lv_at hl 1 rfl) ?_
              obtain ⟨j18, hJ18⟩ : ∃ z : Int32, z = (if j8 = 0 then v7_3 else j4) := ⟨_, rfl⟩
              rw [← hJ18] at he
              try dsimp only at he
              have hpJ18 := hp.1
              replace hp := hp.2 _  hJ18.symm
              have kont18 : ∀ (H : Heap) (locs : List Loc), va_P D vwCl (W_X5 cI m0 m1 m2 m3 m4 m5 m6 m7 m8 m9 m10 m11 mr mc me mw mh mn mu ms mt md mz mi mk mo mj ml) H → va_D A (W_X5 cI m0 m1 m2 m3 m4 m5 m6 m7 m8 m9 m10 m11 mr mc me mw mh mn mu ms mt md mz mi mk mo mj ml) → va_S A s.heap H locs → ∀ ls : Array Slot, lv_has ls 7 [(2, .int j16), (4, .int v7_4), (0, .ref m0), (1, .int a1)] → W p l e (headSpec wsX5_joins rm_X5_joins).room s m ([.ref m0, .int a1] : List Value).toArray below meth c H locs 0 0 (MQ below (Q_X5_joins D cI m0 m1 m2 m3 m4 m5 m6 m7 m8 m9 m10 m11 mr mc me mw mh mn mu ms mt md mz mi mk mo mj ml a1 A) ([.ref m0, .int a1] : List Value).toArray s 0 0 A) (F0 m 110 ls [.int j18]) := by
                intro H locs hP hD hS ls hl
                refine lv_istore_n (lv' := [(3, .int j18), (2, .int j16), (4, .int v7_4), (0, .ref m0), (1, .int a1)]) hx hb dX5_joins_110 rfl hl (by decide) rfl (fun ls hl => ?_)
                refine lv_iinc (v := (v7_4 + 1)) (lv' := [(4, .int (v7_4 + 1)), (3, .int j18), (2, .int j16), (0, .ref m0), (1, .int a1)]) hx hb dX5_joins_111 hl (k := 2) rfl rfl (by decide) rfl (fun ls hl => ?_)
                refine lv_goto (tgt := 7) hx hb dX5_joins_114 (by decide) ?_
                exact ih _ _ _ hp he _ _ hP hD hS _ (lv_sub hl [0, 1, 2, 3, 4] rfl)
              replace he := hJ18
              replace hp := hpJ18
              refine lv_if_eq (tgt := 109) hx hb dX5_joins_101 (by decide) (fun c19 => ?_) (fun c19 => ?_)
              · replace hp := hp.1 c19
                replace he := he.trans (if_pos c19)
                refine lv_iload_n hx hb dX5_joins_109 rfl (lv_at hl 4 rfl) ?_
                subst he
                exact kont18 _ _ hP hD hS _ (lv_sub hl [0, 3, 5, 6] rfl)
              · replace hp := hp.2 c19
                replace he := he.trans (if_neg c19)
                refine lv_iload hx hb dX5_joins_104 (lv_at hl 2 rfl) ?_
                refine lv_goto (tgt := 110) hx hb dX5_joins_106 (by decide) ?_
                subst he
                exact kont18 _ _ hP hD hS _ (lv_sub hl [0, 3, 5, 6] rfl)
            replace he := hJ16
            replace hp := hpJ16
            refine lv_if_eq (tgt := 97) hx hb dX5_joins_89 (by decide) (fun c17 => ?_) (fun c17 => ?_)
            · replace hp := hp.1 c17
              replace he := he.trans (if_pos c17)
              refine lv_iload_n hx hb dX5_joins_97 rfl (lv_at hl 4 rfl) ?_
              subst he
              exact kont16 _ _ hP hD hS _ (lv_sub hl [0, 1, 2, 3, 5, 6] rfl)
            · replace hp := hp.2 c17
              replace he := he.trans (if_neg c17)
              refine lv_iload hx hb dX5_joins_92 (lv_at hl 2 rfl) ?_
              refine lv_goto (tgt := 98) hx hb dX5_joins_94 (by decide) ?_
              subst he
              exact kont16 _ _ hP hD hS _ (lv_sub hl [0, 1, 2, 3, 5, 6] rfl)
          replace he := hJ8
          replace hp := hpJ8
          refine lv_icmp_gt (tgt := 80) hx hb dX5_joins_43 (by decide) (fun c9 => ?_) (fun c9 => ?_)
          · replace hp := hp.1 c9
            replace he := he.trans (if_pos c9)
            refine lv_iconst (v := 1) hx hb dX5_joins_80 (by decide) ?_
            refine lv_goto (tgt := 85) hx hb dX5_joins_81 (by decide) ?_
            subst he
            exact kont8 (Or.inr rfl) _ _ hP hD hS _ (lv_sub hl [0, 1, 2, 3, 4, 5] rfl)
          · replace hp := hp.2 c9
            replace he := he.trans (if_neg c9)
            refine lv_iload hx hb dX5_joins_46 (lv_at hl 0 rfl) ?_
            refine lv_iload_n hx hb dX5_joins_48 rfl (lv_at hl 2 rfl) ?_
            refine lv_icmp_ne (tgt := 84) hx hb dX5_joins_49 (by decide) (fun c10 => ?_) (fun c10 => ?_)
            · replace hp := hp.2 c10
              replace he := he.trans (if_neg c10)
              refine lv_iconst (v := 0) hx hb dX5_joins_84 (by decide) ?_
              subst he
              exact kont8 (Or.inl rfl) _ _ hP hD hS _ (lv_sub hl [0, 1, 2, 3, 4, 5] rfl)
            · replace hp := hp.1 c10
              replace he := he.trans (if_pos c10)
              refine lv_iload hx hb dX5_joins_52 (lv_at hl 0 rfl) ?_
              refine lv_if_le (tgt := 84) hx hb dX5_joins_54 (by decide) (fun c11 => ?_) (fun c11 => ?_)
              · replace hp := hp.1 c11
                replace he := he.trans (if_pos c11)
                refine lv_iconst (v := 0) hx hb dX5_joins_84 (by decide) ?_
                subst he
                exact kont8 (Or.inl rfl) _ _ hP hD hS _ (lv_sub hl [0, 1, 2, 3, 4, 5] rfl)
              · replace hp := hp.2 c11
                replace he := he.trans (if_neg c11)
                refine lv_aload_n hx hb dX5_joins_57 rfl (lv_at hl 4 rfl) ?_
                refine va_get (D := D) (ci := 5) (v := .int mr) (C := RX5) (T := TX5) (N := 16) hx hb hts (by decide +kernel) hown hK hP 0 rfl rfl 2 (by decide) (hts (.fieldLink RX5 68 "AlarmgroveModel" "raised" "I") (by decide +kernel)) (fun _ h9 => h9) rfl dX5_joins_58 ?_
                refine lv_iload hx hb dX5_joins_61 (lv_at hl 1 rfl) ?_
                refine k_calli (S := Unit) (wc := ([] : va_W)) (wr := (W_X5 cI m0 m1 m2 m3 m4 m5 m6 m7 m8 m9 m10 m11 mr mc me mw mh mn mu ms mt md mz mi mk mo mj ml)) (w1 := fun u => ([] : va_W)) (fun u => (W_X5 cI m0 m1 m2 m3 m4 m5 m6 m7 m8 m9 m10 m11 mr mc me mw mh mn mu ms mt md mz mi mk mo mj ml)) hP hK hD hN hS hA [] [0, 1, 2, 3, 4, 5, 6, 7, 8, 9, 10, 11] rfl rfl (by decide) (by decide) (by decide) [0, 1, 2, 3, 4, 5, 6, 7, 8, 9, 10, 11] (by decide) (fun _ => rfl) (fun hg => va_runS (As := [.int mr, .int v7_4]) (rest := []) ⟨hx, hb, hml, hown, hts⟩ (c_X5_has l D cI _ mr v7_4) (va_cwS 2 hts gX5_joins_X5_has rfl rfl rfl (by decide +kernel) ⟨Nat.le_of_ble_eq_true rfl, Nat.le_of_ble_eq_true rfl⟩) ⟨PW.blind, fun U hU hW => ⟨rfl, hg U hU hW⟩⟩ rfl rfl hl.1 rfl (lv_room (Nat.le_of_ble_eq_true rfl)) dX5_joins_63 ⟨Nat.le_of_ble_eq_true rfl, Nat.le_of_ble_eq_true rfl⟩) (fun r12 u H locs hw hP hD hS => ?_)
                obtain ⟨hw, hb12⟩ := hw
                subst hw
                refine lv_if_eq (tgt := 84) hx hb dX5_joins_66 (by decide) (fun c13 => ?_) (fun c13 => ?_)
                · replace hp := hp.1 c13
                  replace he := he.trans (if_pos c13)
                  refine lv_iconst (v := 0) hx hb dX5_joins_84 (by decide) ?_
                  subst he
                  exact kont8 (Or.inl rfl) _ _ hP hD hS _ (lv_sub hl [0, 1, 2, 3, 4, 5] rfl)
                · replace hp := hp.2 c13
                  replace he := he.trans (if_neg c13)
                  refine lv_aload_n hx hb dX5_joins_69 rfl (lv_at hl 4 rfl) ?_
                  refine va_get (D := D) (ci := 5) (v := .int mr) (C := RX5) (T := TX5) (N := 16) hx hb hts (by decide +kernel) hown hK hP 0 rfl rfl 2 (by decide) (hts (.fieldLink RX5 68 "AlarmgroveModel" "raised" "I") (by decide +kernel)) (fun _ h9 => h9) rfl dX5_joins_70 ?_
                  refine lv_iload_n hx hb dX5_joins_73 rfl (lv_at hl 3 rfl) ?_
                  refine k_calli (S := Unit) (wc := ([] : va_W)) (wr := (W_X5 cI m0 m1 m2 m3 m4 m5 m6 m7 m8 m9 m10 m11 mr mc me mw mh mn mu ms mt md mz mi mk mo mj ml)) (w1 := fun u => ([] : va_W)) (fun u => (W_X5 cI m0 m1 m2 m3 m4 m5 m6 m7 m8 m9 m10 m11 mr mc me mw mh mn mu ms mt md mz mi mk mo mj ml)) hP hK hD hN hS hA [] [0, 1, 2, 3, 4, 5, 6, 7, 8, 9, 10, 11] rfl rfl (by decide) (by decide) (by decide) [0, 1, 2, 3, 4, 5, 6, 7, 8, 9, 10, 11] (by decide) (fun _ => rfl) (fun hg => va_runS (As := [.int mr, .int v7_2]) (rest := []) ⟨hx, hb, hml, hown, hts⟩ (c_X5_has l D cI _ mr v7_2) (va_cwS 2 hts gX5_joins_X5_has rfl rfl rfl (by decide +kernel) ⟨Nat.le_of_ble_eq_true rfl, Nat.le_of_ble_eq_true rfl⟩) ⟨PW.blind, fun U hU hW => ⟨rfl, hg U hU hW⟩⟩ rfl rfl hl.1 rfl (lv_room (Nat.le_of_ble_eq_true rfl)) dX5_joins_74 ⟨Nat.le_of_ble_eq_true rfl, Nat.le_of_ble_eq_true rfl⟩) (fun r14 u H locs hw hP hD hS => ?_)
                  obtain ⟨hw, hb14⟩ := hw
                  subst hw
                  refine lv_if_ne (tgt := 84) hx hb dX5_joins_77 (by decide) (fun c15 => ?_) (fun c15 => ?_)
                  · replace hp := hp.2 c15
                    replace he := he.trans (if_neg c15)
                    refine lv_iconst (v := 0) hx hb dX5_joins_84 (by decide) ?_
                    subst he
                    exact kont8 (Or.inl rfl) _ _ hP hD hS _ (lv_sub hl [0, 1, 2, 3, 4, 5] rfl)
                  · replace hp := hp.1 c15
                    replace he := he.trans (if_pos c15)
                    refine lv_iconst (v := 1) hx hb dX5_joins_80 (by decide) ?_
                    refine lv_goto (tgt := 85) hx hb dX5_joins_81 (by decide) ?_
                    subst he
                    exact kont8 (Or.inr rfl) _ _ hP hD hS _ (lv_sub hl [0, 1, 2, 3, 4, 5] rfl)
        replace he := hJ4
        replace hp := hpJ4
        refine lv_if_eq (tgt := 37) hx hb dX5_joins_20 (by decide) (fun c5 => ?_) (fun c5 => ?_)
        · replace hp := hp.1 c5
          replace he := he.trans (if_pos c5)
          refine lv_iconst (v := 0) hx hb dX5_joins_37 (by decide) ?_
          subst he
          exact kont4 _ _ hP hD hS _ (lv_sub hl [0, 1, 2, 3, 4] rfl)
        · replace hp := hp.2 c5
          replace he := he.trans (if_neg c5)
          refine lv_aload_n hx hb dX5_joins_23 rfl (lv_at hl 3 rfl) ?_
          refine lv_iload hx hb dX5_joins_24 (lv_at hl 0 rfl) ?_
          have hq6 := hp.1
          replace hp := hp.2
          refine k_calli (S := Unit) (wc := (W_X5 cI m0 m1 m2 m3 m4 m5 m6 m7 m8 m9 m10 m11 mr mc me mw mh mn mu ms mt md mz mi mk mo mj ml)) (wr := ([] : va_W)) (w1 := fun u => (W_X5 cI m0 m1 m2 m3 m4 m5 m6 m7 m8 m9 m10 m11 mr mc me mw mh mn mu ms mt md mz mi mk mo mj ml)) (fun u => (W_X5 cI m0 m1 m2 m3 m4 m5 m6 m7 m8 m9 m10 m11 mr mc me mw mh mn mu ms mt md mz mi mk mo mj ml)) hP hK hD hN hS hA [0, 1, 2, 3, 4, 5, 6, 7, 8, 9, 10, 11] [] rfl rfl (by decide) (by decide) (by decide) [0, 1, 2, 3, 4, 5, 6, 7, 8, 9, 10, 11] (by decide) (fun _ => rfl) (fun hg => va_runV (As := [.int v7_4]) (rest := []) ⟨hx, hb, hml, hown, hts⟩ (c_X5_explains l D cI m0 m1 m2 m3 m4 m5 m6 m7 m8 m9 m10 m11 mr mc me mw mh mn mu ms mt md mz mi mk mo mj ml _ v7_4 hq6) (cwV 1 hts gX5_joins_X5_explains rfl rfl rfl (by decide +kernel) ⟨Nat.le_of_ble_eq_true rfl, Nat.le_of_ble_eq_true rfl⟩) ⟨PW.blind, va_recv hK hP (ci := 5) (q0 := 0) rfl rfl, fun U hU hW => ⟨rfl, hg U hU hW⟩⟩ rfl rfl hl.1 rfl (lv_room (Nat.le_of_ble_eq_true rfl)) dX5_joins_26 ⟨Nat.le_of_ble_eq_true rfl, Nat.le_of_ble_eq_true rfl⟩) (fun r6 u H locs hw hP hD hS => ?_)
          subst hw
          refine lv_iload_n hx hb dX5_joins_29 rfl (lv_at hl 4 rfl) ?_
          refine lv_iand hx hb dX5_joins_30 ?_
          have hq7 := hp.1
          replace hp := hp.2
          refine k_calli (S := Unit) (wc := ([] : va_W)) (wr := (W_X5 cI m0 m1 m2 m3 m4 m5 m6 m7 m8 m9 m10 m11 mr mc me mw mh mn mu ms mt md mz mi mk mo mj ml)) (w1 := fun u => ([] : va_W)) (fun u => (W_X5 cI m0 m1 m2 m3 m4 m5 m6 m7 m8 m9 m10 m11 mr mc me mw mh mn mu ms mt md mz mi mk mo mj ml)) hP hK hD hN hS hA [] [0, 1, 2, 3, 4, 5, 6, 7, 8, 9, 10, 11] rfl rfl (by decide) (by decide) (by decide) [0, 1, 2, 3, 4, 5, 6, 7, 8, 9, 10, 11] (by decide) (fun _ => rfl) (fun hg => va_runS (As := [.int ((f_X5_explains mu v7_4) &&& a1)]) (rest := []) ⟨hx, hb, hml, hown, hts⟩ (c_X5_count l D cI _ ((f_X5_explains mu v7_4) &&& a1) hq7) (va_cwS 1 hts gX5_joins_X5_count rfl rfl rfl (by decide +kernel) ⟨Nat.le_of_ble_eq_true rfl, Nat.le_of_ble_eq_true rfl⟩) ⟨PW.blind, fun U hU hW => ⟨rfl, hg U hU hW⟩⟩ rfl rfl hl.1 rfl (lv_room (Nat.le_of_ble_eq_true rfl)) dX5_joins_31 ⟨Nat.le_of_ble_eq_true rfl, Nat.le_of_ble_eq_true rfl⟩) (fun r7 u H locs hw hP hD hS => ?_)
          subst hw
          refine lv_goto (tgt := 38) hx hb dX5_joins_34 (by decide) ?_
          subst he
          exact kont4 _ _ hP hD hS _ (lv_sub hl [0, 1, 2, 3, 4] rfl)
  exact loop1 15 ((-1) : Int32) (0 : Int32) (0 : Int32) hpL1 hL1 _ _ hP hD hS _ (lv_sub hl [0, 1, 2, 3, 4] rfl)
abbrev rm_X5_greedyCauses : Room := { frames := 3, cells := 0, slots := 0, locals := 70 }
abbrev Q_X5_greedyCauses (D : va_G) (cI : ClassId) (m0 m1 m2 m3 m4 m5 m6 m7 m8 m9 m10 m11 : Nat) (mr : Int32) (mc : Int32) (me : Int32) (mw : Int32) (mh : Int32) (mn : AA) (mu : AA) (ms : AA) (mt : AA) (md : AA) (mz : AA) (mi : AA) (mk : AA) (mo : AA) (mj : AA) (ml : AA) (A : Nat → Prop) : Array Value → State → Outcome → State → Prop := va_Qi (S := Int32) (fun r u => f_X5_greedyCauses mr mn mu = (r, u)) (fun u t => QW D [(cI, .int)] A (W_X5 cI m0 m1 m2 m3 m4 m5 m6 m7 m8 m9 m10 m11 mr mc me mw u mn mu ms mt md mz mi mk mo mj ml) t) A
set_option maxHeartbeats 4000000 in
set_option maxRecDepth 100000 in
theorem c_X5_greedyCauses (l : Launch)  (D : va_G) (cI : ClassId) (m0 m1 m2 m3 m4 m5 m6 m7 m8 m9 m10 m11 : Nat) (mr : Int32) (mc : Int32) (me : Int32) (mw : Int32) (mh : Int32) (mn : AA) (mu : AA) (ms : AA) (mt : AA) (md : AA) (mz : AA) (mi : AA) (mk : AA) (mo : AA) (mj : AA) (ml : AA) (sz : Nat) (hp : p_X5_greedyCauses mr mn mu) : Met l yX5_greedyCauses wsX5_greedyCauses rm_X5_greedyCauses (va_Pc [.ref m0] (PW D [(cI, .int)] sz (W_X5 cI m0 m1 m2 m3 m4 m5 m6 m7 m8 m9 m10 m11 mr mc me mw mh mn mu ms mt md mz mi mk mo mj ml))) (Q_X5_greedyCauses D cI m0 m1 m2 m3 m4 m5 m6 m7 m8 m9 m10 m11 mr mc me mw mh mn mu ms mt md mz mi mk mo mj ml (va_A (W_X5 cI m0 m1 m2 m3 m4 m5 m6 m7 m8 m9 m10 m11 mr mc me mw mh mn mu ms mt md mz mi mk mo mj ml) sz)) 0 0 (va_A (W_X5 cI m0 m1 m2 m3 m4 m5 m6 m7 m8 m9 m10 m11 mr mc me mw mh mn mu ms mt md mz mi mk mo mj ml) sz) := by
  refine Met.ofW (cc := cX5_greedyCauses) (maxL := 3) (ret := (some .int)) (by decide) rfl ?_
  intro p e s m args below meth c s₁ B hml hv
  obtain ⟨rfl, hsz, hP, hK, hD0, hN⟩ := hv
  have hx := B.exec
  have hb := B.bytes
  have hr := B.returns
  have hts := atoms_spec (ws := wsX5_greedyCauses) B.pre
  have hown : s.vm.findClass RX5 = some m.cls := findClass_of_methodNamed B.named
  have hlocks := B.notSynchronized
  subst hsz
  have hD := hD0.self (sz := s.heap.size)
  generalize hAe : va_A (W_X5 cI m0 m1 m2 m3 m4 m5 m6 m7 m8 m9 m10 m11 mr mc me mw mh mn mu ms mt md mz mi mk mo mj ml) s.heap.size = A at hD ⊢
  have hA : ∀ q : Nat, s.heap.size ≤ q → A q := fun q h => by rw [← hAe]; exact Or.inr h
  have hS : va_S A s.heap s.heap [] := va_S.rf
  have hl := lv_entry ([.ref m0]) (n := 3) (Nat.le_of_ble_eq_true rfl)
  rw [lg_entry_eq]
  generalize (lg_sl ([.ref m0]) ++ List.replicate (3 - (lg_sl ([.ref m0])).length) Slot.unset).toArray = ls at hl ⊢
  have hl : lv_has ls 3 [(0, .ref m0)] := hl
  have he := f_X5_greedyCauses.eq_1 mr mn mu
  replace hp := Eq.mp (p_X5_greedyCauses.eq_1 ..) hp
  refine lv_aload_n hx hb dX5_greedyCauses_0 rfl (lv_at hl 0 rfl) ?_
  refine lv_iconst (v := 0) hx hb dX5_greedyCauses_1 (by decide) ?_
  refine va_put (D := D) (ci := 5) (v := .int 0) (ty := .int) (C := RX5) (T := TX5) (N := 16) hx hb hts (by decide +kernel) tyX5 tyX5_ok nmX5 hown hK hP hD hS 0 rfl rfl 15 (by decide) (hts (.fieldLink RX5 43 "AlarmgroveModel" "thrown" "I") (by decide +kernel)) (fun _ h9 => h9) rfl (by decide +kernel) rfl rfl (Nat.le_of_ble_eq_true rfl) dX5_greedyCauses_2 (fun H locs hP hD hS => ?_)
  have hP : va_P D vwCl (W_X5 cI m0 m1 m2 m3 m4 m5 m6 m7 m8 m9 m10 m11 mr mc me mw 0 mn mu ms mt md mz mi mk mo mj ml) H := hP
  have hD : va_D A (W_X5 cI m0 m1 m2 m3 m4 m5 m6 m7 m8 m9 m10 m11 mr mc me mw 0 mn mu ms mt md mz mi mk mo mj ml) := hD
  refine lv_aload_n hx hb dX5_greedyCauses_5 rfl (lv_at hl 0 rfl) ?_
  refine va_get (D := D) (ci := 5) (v := .int mr) (C := RX5) (T := TX5) (N := 16) hx hb hts (by decide +kernel) hown hK hP 0 rfl rfl 2 (by decide) (hts (.fieldLink RX5 68 "AlarmgroveModel" "raised" "I") (by decide +kernel)) (fun _ h9 => h9) rfl dX5_greedyCauses_6 ?_
  refine lv_istore_n (lv' := [(1, .int mr), (0, .ref m0)]) hx hb dX5_greedyCauses_9 rfl hl (by decide) rfl (fun ls hl => ?_)
  refine lv_iconst (v := 0) hx hb dX5_greedyCauses_10 (by decide) ?_
  refine lv_istore_n (lv' := [(2, .int 0), (1, .int mr), (0, .ref m0)]) hx hb dX5_greedyCauses_11 rfl hl (by decide) rfl (fun ls hl => ?_)
  obtain ⟨⟨r1_v12_1, r1_v12_2⟩, hL1⟩ : ∃ z, z = f_X5_greedyCauses_L12 mr mn mu 16 mr (0 : Int32) := ⟨_, rfl⟩
  rw [← hL1] at he
  try dsimp only at he
  have hpL1 := hp.1
  replace hp := hp.2 _ _ hL1.symm
  have kont1 : ∀ (x1_v12_1 : Int32) (x1_v12_2 : Int32), (r1_v12_1, r1_v12_2) = (x1_v12_1, x1_v12_2) → ∀ (H : Heap) (locs : List Loc), va_P D vwCl (W_X5 cI m0 m1 m2 m3 m4 m5 m6 m7 m8 m9 m10 m11 mr mc me mw 0 mn mu ms mt md mz mi mk mo mj ml) H → va_D A (W_X5 cI m0 m1 m2 m3 m4 m5 m6 m7 m8 m9 m10 m11 mr mc me mw 0 mn mu ms mt md mz mi mk mo mj ml) → va_S A s.heap H locs → ∀ ls : Array Slot, lv_has ls 3 [(2, .int x1_v12_2)] → W p l e (headSpec wsX5_greedyCauses rm_X5_greedyCauses).room s m ([.ref m0] : List Value).toArray below meth c H locs 0 0 (MQ below (Q_X5_greedyCauses D cI m0 m1 m2 m3 m4 m5 m6 m7 m8 m9 m10 m11 mr mc me mw mh mn mu ms mt md mz mi mk mo mj ml A) ([.ref m0] : List Value).toArray s 0 0 A) (F0 m 36 ls []) := by
    intro x1_v12_1 x1_v12_2 hxe H locs hP hD hS ls hl
    simp only [Prod.mk.injEq] at hxe
    obtain ⟨rfl, rfl⟩ := hxe
    refine lv_iload_n hx hb dX5_greedyCauses_36 rfl (lv_at hl 0 rfl) ?_
    exact W.iret (v := r1_v12_2) hx hb hr (fun t ht hW => ⟨⟨r1_v12_2, 0, rfl, he, by rw [ht]; exact hP, va_K.moved hW.alike hK, hD⟩, hS.F ht⟩) hS.2.2 dX5_greedyCauses_37
  have loop1 : ∀ (n : Nat) (v12_1 : Int32) (v12_2 : Int32), p_X5_greedyCauses_L12 mr mn mu n v12_1 v12_2 → (r1_v12_1, r1_v12_2) = f_X5_greedyCauses_L12 mr mn mu n v12_1 v12_2 → ∀ (H : Heap) (locs : List Loc), va_P D vwCl (W_X5 cI m0 m1 m2 m3 m4 m5 m6 m7 m8 m9 m10 m11 mr mc me mw 0 mn mu ms mt md mz mi mk mo mj ml) H → va_D A (W_X5 cI m0 m1 m2 m3 m4 m5 m6 m7 m8 m9 m10 m11 mr mc me mw 0 mn mu ms mt md mz mi mk mo mj ml) → va_S A s.heap H locs → ∀ ls : Array Slot, lv_has ls 3 [(2, .int v12_2), (1, .int v12_1), (0, .ref m0)] → W p l e (headSpec wsX5_greedyCauses rm_X5_greedyCauses).room s m ([.ref m0] : List Value).toArray below meth c H locs 0 0 (MQ below (Q_X5_greedyCauses D cI m0 m1 m2 m3 m4 m5 m6 m7 m8 m9 m10 m11 mr mc me mw mh mn mu ms mt md mz mi mk mo mj ml A) ([.ref m0] : List Value).toArray s 0 0 A) (F0 m 12 ls []) := by
    intro n
    induction n with
    | zero => exact fun _ _ hp => hp.elim
    | succ n ih =>
      intro v12_1 v12_2 hp he H locs hP hD hS ls hl
      replace hp := Eq.mp (p_X5_greedyCauses_L12.eq_2 ..) hp
      replace he := he.trans (f_X5_greedyCauses_L12.eq_2 ..)
      refine lv_iload_n hx hb dX5_greedyCauses_12 rfl (lv_at hl 1 rfl) ?_
      refine lv_if_eq (tgt := 36) hx hb dX5_greedyCauses_13 (by decide) (fun c2 => ?_) (fun c2 => ?_)
      · replace hp := hp.1 c2
        replace he := he.trans (if_pos c2)
        exact kont1 _ _ he _ _ hP hD hS _ (lv_sub hl [0] rfl)
      · replace hp := hp.2 c2
        replace he := he.trans (if_neg c2)
        refine lv_iload_n hx hb dX5_greedyCauses_16 rfl (lv_at hl 1 rfl) ?_
        refine lv_aload_n hx hb dX5_greedyCauses_17 rfl (lv_at hl 2 rfl) ?_
        refine lv_aload_n hx hb dX5_greedyCauses_18 rfl (lv_at hl 2 rfl) ?_
        refine lv_iload_n hx hb dX5_greedyCauses_19 rfl (lv_at hl 1 rfl) ?_
        have hq3 := hp.1
        replace hp := hp.2
        refine k_calli (S := Unit) (wc := (W_X5 cI m0 m1 m2 m3 m4 m5 m6 m7 m8 m9 m10 m11 mr mc me mw 0 mn mu ms mt md mz mi mk mo mj ml)) (wr := ([] : va_W)) (w1 := fun u => (W_X5 cI m0 m1 m2 m3 m4 m5 m6 m7 m8 m9 m10 m11 mr mc me mw 0 mn mu ms mt md mz mi mk mo mj ml)) (fun u => (W_X5 cI m0 m1 m2 m3 m4 m5 m6 m7 m8 m9 m10 m11 mr mc me mw 0 mn mu ms mt md mz mi mk mo mj ml)) hP hK hD hN hS hA [0, 1, 2, 3, 4, 5, 6, 7, 8, 9, 10, 11] [] rfl rfl (by decide) (by decide) (by decide) [0, 1, 2, 3, 4, 5, 6, 7, 8, 9, 10, 11] (by decide) (fun _ => rfl) (fun hg => va_runV (As := [.int v12_1]) (rest := [.ref m0, .int v12_1]) ⟨hx, hb, hml, hown, hts⟩ (c_X5_joins l D cI m0 m1 m2 m3 m4 m5 m6 m7 m8 m9 m10 m11 mr mc me mw (0 : Int32) mn mu ms mt md mz mi mk mo mj ml _ v12_1 hq3) (cwV 1 hts gX5_greedyCauses_X5_joins rfl rfl rfl (by decide +kernel) ⟨Nat.le_of_ble_eq_true rfl, Nat.le_of_ble_eq_true rfl⟩) ⟨PW.blind, va_recv hK hP (ci := 5) (q0 := 0) rfl rfl, fun U hU hW => ⟨rfl, hg U hU hW⟩⟩ rfl rfl hl.1 rfl (lv_room (Nat.le_of_ble_eq_true rfl)) dX5_greedyCauses_20 ⟨Nat.le_of_ble_eq_true rfl, Nat.le_of_ble_eq_true rfl⟩) (fun r3 u H locs hw hP hD hS => ?_)
        subst hw
        have hq4 := hp.1
        replace hp := hp.2
        refine k_calli (S := Unit) (wc := (W_X5 cI m0 m1 m2 m3 m4 m5 m6 m7 m8 m9 m10 m11 mr mc me mw 0 mn mu ms mt md mz mi mk mo mj ml)) (wr := ([] : va_W)) (w1 := fun u => (W_X5 cI m0 m1 m2 m3 m4 m5 m6 m7 m8 m9 m10 m11 mr mc me mw 0 mn mu ms mt md mz mi mk mo mj ml)) (fun u => (W_X5 cI m0 m1 m2 m3 m4 m5 m6 m7 m8 m9 m10 m11 mr mc me mw 0 mn mu ms mt md mz mi mk mo mj ml)) hP hK hD hN hS hA [0, 1, 2, 3, 4, 5, 6, 7, 8, 9, 10, 11] [] rfl rfl (by decide) (by decide) (by decide) [0, 1, 2, 3, 4, 5, 6, 7, 8, 9, 10, 11] (by decide) (fun _ => rfl) (fun hg => va_runV (As := [.int (f_X5_joins mr mn mu v12_1)]) (rest := [.int v12_1]) ⟨hx, hb, hml, hown, hts⟩ (c_X5_explains l D cI m0 m1 m2 m3 m4 m5 m6 m7 m8 m9 m10 m11 mr mc me mw (0 : Int32) mn mu ms mt md mz mi mk mo mj ml _ (f_X5_joins mr mn mu v12_1) hq4) (cwV 1 hts gX5_greedyCauses_X5_explains rfl rfl rfl (by decide +kernel) ⟨Nat.le_of_ble_eq_true rfl, Nat.le_of_ble_eq_true rfl⟩) ⟨PW.blind, va_recv hK hP (ci := 5) (q0 := 0) rfl rfl, fun U hU hW => ⟨rfl, hg U hU hW⟩⟩ rfl rfl hl.1 rfl (lv_room (Nat.le_of_ble_eq_true rfl)) dX5_greedyCauses_23 ⟨Nat.le_of_ble_eq_true rfl, Nat.le_of_ble_eq_true rfl⟩) (fun r4 u H locs hw hP hD hS => ?_)
        subst hw
        refine lv_iconst (v := (-1)) hx hb dX5_greedyCauses_26 (by decide) ?_
        refine lv_ixor hx hb dX5_greedyCauses_27 ?_
        refine lv_iand hx hb dX5_greedyCauses_28 ?_
        refine lv_istore_n (lv' := [(1, .int (v12_1 &&& ((f_X5_explains mu (f_X5_joins mr mn mu v12_1)) ^^^ (-1)))), (2, .int v12_2), (0, .ref m0)]) hx hb dX5_greedyCauses_29 rfl hl (by decide) rfl (fun ls hl => ?_)
        refine lv_iinc (v := (v12_2 + 1)) (lv' := [(2, .int (v12_2 + 1)), (1, .int (v12_1 &&& ((f_X5_explains mu (f_X5_joins mr mn mu v12_1)) ^^^ (-1)))), (0, .ref m0)]) hx hb dX5_greedyCauses_30 hl (k := 1) rfl rfl (by decide) rfl (fun ls hl => ?_)
        refine lv_goto (tgt := 12) hx hb dX5_greedyCauses_33 (by decide) ?_
        exact ih _ _ hp he _ _ hP hD hS _ (lv_sub hl [0, 1, 2] rfl)
  exact loop1 16 mr (0 : Int32) hpL1 hL1 _ _ hP hD hS _ (lv_sub hl [0, 1, 2] rfl)
abbrev rm_X5_greedyCause : Room := { frames := 3, cells := 0, slots := 0, locals := 70 }
abbrev Q_X5_greedyCause (D : va_G) (cI : ClassId) (m0 m1 m2 m3 m4 m5 m6 m7 m8 m9 m10 m11 : Nat) (mr : Int32) (mc : Int32) (me : Int32) (mw : Int32) (mh : Int32) (mn : AA) (mu : AA) (ms : AA) (mt : AA) (md : AA) (mz : AA) (mi : AA) (mk : AA) (mo : AA) (mj : AA) (ml : AA) (a1 : Int32) (A : Nat → Prop) : Array Value → State → Outcome → State → Prop := va_Qi (S := Int32) (fun r u => f_X5_greedyCause mr mn mu a1 = (r, u)) (fun u t => QW D [(cI, .int)] A (W_X5 cI m0 m1 m2 m3 m4 m5 m6 m7 m8 m9 m10 m11 mr mc me mw u mn mu ms mt md mz mi mk mo mj ml) t) A
set_option maxHeartbeats 4000000 in
set_option maxRecDepth 100000 in
theorem c_X5_greedyCause (l : Launch)  (D : va_G) (cI : ClassId) (m0 m1 m2 m3 m4 m5 m6 m7 m8 m9 m10 m11 : Nat) (mr : Int32) (mc : Int32) (me : Int32) (mw : Int32) (mh : Int32) (mn : AA) (mu : AA) (ms : AA) (mt : AA) (md : AA) (mz : AA) (mi : AA) (mk : AA) (mo : AA) (mj : AA) (ml : AA) (sz : Nat) (a1 : Int32) (hp : p_X5_greedyCause mr mn mu a1) : Met l yX5_greedyCause wsX5_greedyCause rm_X5_greedyCause (va_Pc [.ref m0, .int a1] (PW D [(cI, .int)] sz (W_X5 cI m0 m1 m2 m3 m4 m5 m6 m7 m8 m9 m10 m11 mr mc me mw mh mn mu ms mt md mz mi mk mo mj ml))) (Q_X5_greedyCause D cI m0 m1 m2 m3 m4 m5 m6 m7 m8 m9 m10 m11 mr mc me mw mh mn mu ms mt md mz mi mk mo mj ml a1 (va_A (W_X5 cI m0 m1 m2 m3 m4 m5 m6 m7 m8 m9 m10 m11 mr mc me mw mh mn mu ms mt md mz mi mk mo mj ml) sz)) 0 0 (va_A (W_X5 cI m0 m1 m2 m3 m4 m5 m6 m7 m8 m9 m10 m11 mr mc me mw mh mn mu ms mt md mz mi mk mo mj ml) sz) := by
  refine Met.ofW (cc := cX5_greedyCause) (maxL := 5) (ret := (some .int)) (by decide) rfl ?_
  intro p e s m args below meth c s₁ B hml hv
  obtain ⟨rfl, hsz, hP, hK, hD0, hN⟩ := hv
  have hx := B.exec
  have hb := B.bytes
  have hr := B.returns
  have hts := atoms_spec (ws := wsX5_greedyCause) B.pre
  have hown : s.vm.findClass RX5 = some m.cls := findClass_of_methodNamed B.named
  have hlocks := B.notSynchronized
  subst hsz
  have hD := hD0.self (sz := s.heap.size)
  generalize hAe : va_A (W_X5 cI m0 m1 m2 m3 m4 m5 m6 m7 m8 m9 m10 m11 mr mc me mw mh mn mu ms mt md mz mi mk mo mj ml) s.heap.size = A at hD ⊢
  have hA : ∀ q : Nat, s.heap.size ≤ q → A q := fun q h => by rw [← hAe]; exact Or.inr h
  have hS : va_S A s.heap s.heap [] := va_S.rf
  have hl := lv_entry ([.ref m0, .int a1]) (n := 5) (Nat.le_of_ble_eq_true rfl)
  rw [lg_entry_eq]
  generalize (lg_sl ([.ref m0, .int a1]) ++ List.replicate (5 - (lg_sl ([.ref m0, .int a1])).length) Slot.unset).toArray = ls at hl ⊢
  have hl : lv_has ls 5 [(0, .ref m0), (1, .int a1)] := hl
  have he := f_X5_greedyCause.eq_1 mr mn mu a1
  replace hp := Eq.mp (p_X5_greedyCause.eq_1 ..) hp
  refine lv_aload_n hx hb dX5_greedyCause_0 rfl (lv_at hl 0 rfl) ?_
  refine va_get (D := D) (ci := 5) (v := .int mr) (C := RX5) (T := TX5) (N := 16) hx hb hts (by decide +kernel) hown hK hP 0 rfl rfl 2 (by decide) (hts (.fieldLink RX5 68 "AlarmgroveModel" "raised" "I") (by decide +kernel)) (fun _ h9 => h9) rfl dX5_greedyCause_1 ?_
  refine lv_istore_n (lv' := [(2, .int mr), (0, .ref m0), (1, .int a1)]) hx hb dX5_greedyCause_4 rfl hl (by decide) rfl (fun ls hl => ?_)
  refine lv_iconst (v := (-1)) hx hb dX5_greedyCause_5 (by decide) ?_
  refine lv_istore_n (lv' := [(3, .int (-1)), (2, .int mr), (0, .ref m0), (1, .int a1)]) hx hb dX5_greedyCause_6 rfl hl (by decide) rfl (fun ls hl => ?_)
  refine lv_iconst (v := 0) hx hb dX5_greedyCause_7 (by decide) ?_
  refine lv_istore (lv' := [(4, .int 0), (3, .int (-1)), (2, .int mr), (0, .ref m0), (1, .int a1)]) hx hb dX5_greedyCause_8 hl (by decide) rfl (fun ls hl => ?_)
  obtain ⟨⟨r1_v10_2, r1_v10_3, r1_v10_4⟩, hL1⟩ : ∃ z, z = f_X5_greedyCause_L10 mr mn mu a1 16 mr ((-1) : Int32) (0 : Int32) := ⟨_, rfl⟩
  rw [← hL1] at he
  try dsimp only at he
  have hpL1 := hp.1
  replace hp := hp.2 _ _ _ hL1.symm
  have kont1 : ∀ (x1_v10_2 : Int32) (x1_v10_3 : Int32) (x1_v10_4 : Int32), (r1_v10_2, r1_v10_3, r1_v10_4) = (x1_v10_2, x1_v10_3, x1_v10_4) → ∀ (H : Heap) (locs : List Loc), va_P D vwCl (W_X5 cI m0 m1 m2 m3 m4 m5 m6 m7 m8 m9 m10 m11 mr mc me mw mh mn mu ms mt md mz mi mk mo mj ml) H → va_D A (W_X5 cI m0 m1 m2 m3 m4 m5 m6 m7 m8 m9 m10 m11 mr mc me mw mh mn mu ms mt md mz mi mk mo mj ml) → va_S A s.heap H locs → ∀ ls : Array Slot, lv_has ls 5 [(3, .int x1_v10_3), (0, .ref m0), (1, .int a1)] → W p l e (headSpec wsX5_greedyCause rm_X5_greedyCause).room s m ([.ref m0, .int a1] : List Value).toArray below meth c H locs 0 0 (MQ below (Q_X5_greedyCause D cI m0 m1 m2 m3 m4 m5 m6 m7 m8 m9 m10 m11 mr mc me mw mh mn mu ms mt md mz mi mk mo mj ml a1 A) ([.ref m0, .int a1] : List Value).toArray s 0 0 A) (F0 m 60 ls []) := by
    intro x1_v10_2 x1_v10_3 x1_v10_4 hxe H locs hP hD hS ls hl
    simp only [Prod.mk.injEq] at hxe
    obtain ⟨rfl, rfl, rfl⟩ := hxe
    refine lv_aload_n hx hb dX5_greedyCause_60 rfl (lv_at hl 1 rfl) ?_
    refine lv_iload_n hx hb dX5_greedyCause_61 rfl (lv_at hl 2 rfl) ?_
    obtain ⟨j10, hJ10⟩ : ∃ z : Int32, z = (if a1 < 0 then (0 : Int32) else (if r1_v10_3 < 0 then (0 : Int32) else (1 : Int32))) := ⟨_, rfl⟩
    rw [← hJ10] at he
    try dsimp only at he
    have hpJ10 := hp.1
    replace hp := hp.2 _  hJ10.symm
    have kont10 : (j10 = 0 ∨ j10 = 1) → ∀ (H : Heap) (locs : List Loc), va_P D vwCl (W_X5 cI m0 m1 m2 m3 m4 m5 m6 m7 m8 m9 m10 m11 mr mc me mw mh mn mu ms mt md mz mi mk mo mj ml) H → va_D A (W_X5 cI m0 m1 m2 m3 m4 m5 m6 m7 m8 m9 m10 m11 mr mc me mw mh mn mu ms mt md mz mi mk mo mj ml) → va_S A s.heap H locs → ∀ ls : Array Slot, lv_has ls 5 [(3, .int r1_v10_3)] → W p l e (headSpec wsX5_greedyCause rm_X5_greedyCause).room s m ([.ref m0, .int a1] : List Value).toArray below meth c H locs 0 0 (MQ below (Q_X5_greedyCause D cI m0 m1 m2 m3 m4 m5 m6 m7 m8 m9 m10 m11 mr mc me mw mh mn mu ms mt md mz mi mk mo mj ml a1 A) ([.ref m0, .int a1] : List Value).toArray s 0 0 A) (F0 m 74 ls [.int j10, .ref m0]) := by
      intro hb10 H locs hP hD hS ls hl
      refine lv_iconst (v := 1) hx hb dX5_greedyCause_74 (by decide) ?_
      refine k_calli (S := Int32) (wc := (W_X5 cI m0 m1 m2 m3 m4 m5 m6 m7 m8 m9 m10 m11 mr mc me mw mh mn mu ms mt md mz mi mk mo mj ml)) (wr := ([] : va_W)) (w1 := fun u => (W_X5 cI m0 m1 m2 m3 m4 m5 m6 m7 m8 m9 m10 m11 mr mc me mw u mn mu ms mt md mz mi mk mo mj ml)) (fun u => (W_X5 cI m0 m1 m2 m3 m4 m5 m6 m7 m8 m9 m10 m11 mr mc me mw u mn mu ms mt md mz mi mk mo mj ml)) hP hK hD hN hS hA [0, 1, 2, 3, 4, 5, 6, 7, 8, 9, 10, 11] [] rfl rfl (by decide) (by decide) (by decide) [0, 1, 2, 3, 4, 5, 6, 7, 8, 9, 10, 11] (by decide) (fun _ => rfl) (fun hg => va_runV (As := [.int j10, .int 1]) (rest := []) ⟨hx, hb, hml, hown, hts⟩ (c_X5_goes l D cI m0 m1 m2 m3 m4 m5 m6 m7 m8 m9 m10 m11 mr mc me mw mh mn mu ms mt md mz mi mk mo mj ml _ j10 1) (cwV 2 hts gX5_greedyCause_X5_goes rfl rfl rfl (by decide +kernel) ⟨Nat.le_of_ble_eq_true rfl, Nat.le_of_ble_eq_true rfl⟩) ⟨PW.blind, va_recv hK hP (ci := 5) (q0 := 0) rfl rfl, fun U hU hW => ⟨rfl, hg U hU hW⟩⟩ rfl rfl hl.1 rfl (lv_room (Nat.le_of_ble_eq_true rfl)) dX5_greedyCause_75 ⟨Nat.le_of_ble_eq_true rfl, Nat.le_of_ble_eq_true rfl⟩) (fun r13 u H locs hw hP hD hS => ?_)
      obtain ⟨u13_0, rfl⟩ : ∃ z, z = u := ⟨_, rfl⟩
      obtain ⟨hw, hb13⟩ := hw
      rw [hw] at he
      try dsimp only at he
      replace hp := hp r13 u13_0 hw
      have hP : va_P D vwCl (W_X5 cI m0 m1 m2 m3 m4 m5 m6 m7 m8 m9 m10 m11 mr mc me mw u13_0 mn mu ms mt md mz mi mk mo mj ml) H := hP
      have hD : va_D A (W_X5 cI m0 m1 m2 m3 m4 m5 m6 m7 m8 m9 m10 m11 mr mc me mw u13_0 mn mu ms mt md mz mi mk mo mj ml) := hD
      obtain ⟨j14, hJ14⟩ : ∃ z : Int32, z = (if r13 = 0 then (0 : Int32) else r1_v10_3) := ⟨_, rfl⟩
      rw [← hJ14] at he
      try dsimp only at he
      have hpJ14 := hp.1
      replace hp := hp.2 _  hJ14.symm
      have kont14 : ∀ (H : Heap) (locs : List Loc), va_P D vwCl (W_X5 cI m0 m1 m2 m3 m4 m5 m6 m7 m8 m9 m10 m11 mr mc me mw u13_0 mn mu ms mt md mz mi mk mo mj ml) H → va_D A (W_X5 cI m0 m1 m2 m3 m4 m5 m6 m7 m8 m9 m10 m11 mr mc me mw u13_0 mn mu ms mt md mz mi mk mo mj ml) → va_S A s.heap H locs → ∀ ls : Array Slot, lv_has ls 5 [] → W p l e (headSpec wsX5_greedyCause rm_X5_greedyCause).room s m ([.ref m0, .int a1] : List Value).toArray below meth c H locs 0 0 (MQ below (Q_X5_greedyCause D cI m0 m1 m2 m3 m4 m5 m6 m7 m8 m9 m10 m11 mr mc me mw mh mn mu ms mt md mz mi mk mo mj ml a1 A) ([.ref m0, .int a1] : List Value).toArray s 0 0 A) (F0 m 86 ls [.int j14]) := by
        intro H locs hP hD hS ls hl
        exact W.iret (v := j14) hx hb hr (fun t ht hW => ⟨⟨j14, u13_0, rfl, he, by rw [ht]; exact hP, va_K.moved hW.alike hK, hD⟩, hS.F ht⟩) hS.2.2 dX5_greedyCause_86
      replace he := hJ14
      replace hp := hpJ14
      refine lv_if_eq (tgt := 85) hx hb dX5_greedyCause_78 (by decide) (fun c15 => ?_) (fun c15 => ?_)
      · replace hp := hp.1 c15
        replace he := he.trans (if_pos c15)
        refine lv_iconst (v := 0) hx hb dX5_greedyCause_85 (by decide) ?_
        subst he
        exact kont14 _ _ hP hD hS _ (lv_sub hl [] rfl)
      · replace hp := hp.2 c15
        replace he := he.trans (if_neg c15)
        refine lv_iload_n hx hb dX5_greedyCause_81 rfl (lv_at hl 0 rfl) ?_
        refine lv_goto (tgt := 86) hx hb dX5_greedyCause_82 (by decide) ?_
        subst he
        exact kont14 _ _ hP hD hS _ (lv_sub hl [] rfl)
    replace he := hJ10
    replace hp := hpJ10
    refine lv_if_lt (tgt := 73) hx hb dX5_greedyCause_62 (by decide) (fun c11 => ?_) (fun c11 => ?_)
    · replace hp := hp.1 c11
      replace he := he.trans (if_pos c11)
      refine lv_iconst (v := 0) hx hb dX5_greedyCause_73 (by decide) ?_
      subst he
      exact kont10 (Or.inl rfl) _ _ hP hD hS _ (lv_sub hl [0] rfl)
    · replace hp := hp.2 c11
      replace he := he.trans (if_neg c11)
      refine lv_iload_n hx hb dX5_greedyCause_65 rfl (lv_at hl 0 rfl) ?_
      refine lv_if_lt (tgt := 73) hx hb dX5_greedyCause_66 (by decide) (fun c12 => ?_) (fun c12 => ?_)
      · replace hp := hp.1 c12
        replace he := he.trans (if_pos c12)
        refine lv_iconst (v := 0) hx hb dX5_greedyCause_73 (by decide) ?_
        subst he
        exact kont10 (Or.inl rfl) _ _ hP hD hS _ (lv_sub hl [0] rfl)
      · replace hp := hp.2 c12
        replace he := he.trans (if_neg c12)
        refine lv_iconst (v := 1) hx hb dX5_greedyCause_69 (by decide) ?_
        refine lv_goto (tgt := 74) hx hb dX5_greedyCause_70 (by decide) ?_
        subst he
        exact kont10 (Or.inr rfl) _ _ hP hD hS _ (lv_sub hl [0] rfl)
  have loop1 : ∀ (n : Nat) (v10_2 : Int32) (v10_3 : Int32) (v10_4 : Int32), p_X5_greedyCause_L10 mr mn mu a1 n v10_2 v10_3 v10_4 → (r1_v10_2, r1_v10_3, r1_v10_4) = f_X5_greedyCause_L10 mr mn mu a1 n v10_2 v10_3 v10_4 → ∀ (H : Heap) (locs : List Loc), va_P D vwCl (W_X5 cI m0 m1 m2 m3 m4 m5 m6 m7 m8 m9 m10 m11 mr mc me mw mh mn mu ms mt md mz mi mk mo mj ml) H → va_D A (W_X5 cI m0 m1 m2 m3 m4 m5 m6 m7 m8 m9 m10 m11 mr mc me mw mh mn mu ms mt md mz mi mk mo mj ml) → va_S A s.heap H locs → ∀ ls : Array Slot, lv_has ls 5 [(4, .int v10_4), (3, .int v10_3), (2, .int v10_2), (0, .ref m0), (1, .int a1)] → W p l e (headSpec wsX5_greedyCause rm_X5_greedyCause).room s m ([.ref m0, .int a1] : List Value).toArray below meth c H locs 0 0 (MQ below (Q_X5_greedyCause D cI m0 m1 m2 m3 m4 m5 m6 m7 m8 m9 m10 m11 mr mc me mw mh mn mu ms mt md mz mi mk mo mj ml a1 A) ([.ref m0, .int a1] : List Value).toArray s 0 0 A) (F0 m 10 ls []) := by
    intro n
    induction n with
    | zero => exact fun _ _ _ hp => hp.elim
    | succ n ih =>
      intro v10_2 v10_3 v10_4 hp he H locs hP hD hS ls hl
      replace hp := Eq.mp (p_X5_greedyCause_L10.eq_2 ..) hp
      replace he := he.trans (f_X5_greedyCause_L10.eq_2 ..)
      refine lv_iload hx hb dX5_greedyCause_10 (lv_at hl 0 rfl) ?_
      refine lv_iload_n hx hb dX5_greedyCause_12 rfl (lv_at hl 4 rfl) ?_
      refine lv_icmp_gt (tgt := 60) hx hb dX5_greedyCause_13 (by decide) (fun c2 => ?_) (fun c2 => ?_)
      · replace hp := hp.1 c2
        replace he := he.trans (if_pos c2)
        exact kont1 _ _ _ he _ _ hP hD hS _ (lv_sub hl [1, 3, 4] rfl)
      · replace hp := hp.2 c2
        replace he := he.trans (if_neg c2)
        refine lv_iload_n hx hb dX5_greedyCause_16 rfl (lv_at hl 4 rfl) ?_
        refine lv_bipush (v := 14) hx hb dX5_greedyCause_17 (by decide) ?_
        refine lv_icmp_ge (tgt := 60) hx hb dX5_greedyCause_19 (by decide) (fun c3 => ?_) (fun c3 => ?_)
        · replace hp := hp.1 c3
          replace he := he.trans (if_pos c3)
          exact kont1 _ _ _ he _ _ hP hD hS _ (lv_sub hl [1, 3, 4] rfl)
        · replace hp := hp.2 c3
          replace he := he.trans (if_neg c3)
          refine lv_iload_n hx hb dX5_greedyCause_22 rfl (lv_at hl 2 rfl) ?_
          obtain ⟨j4, hJ4⟩ : ∃ z : Int32, z = (if v10_2 = 0 then ((-1) : Int32) else (f_X5_joins mr mn mu v10_2)) := ⟨_, rfl⟩
          rw [← hJ4] at he
          try dsimp only at he
          have hpJ4 := hp.1
          replace hp := hp.2 _  hJ4.symm
          have kont4 : ∀ (H : Heap) (locs : List Loc), va_P D vwCl (W_X5 cI m0 m1 m2 m3 m4 m5 m6 m7 m8 m9 m10 m11 mr mc me mw mh mn mu ms mt md mz mi mk mo mj ml) H → va_D A (W_X5 cI m0 m1 m2 m3 m4 m5 m6 m7 m8 m9 m10 m11 mr mc me mw mh mn mu ms mt md mz mi mk mo mj ml) → va_S A s.heap H locs → ∀ ls : Array Slot, lv_has ls 5 [(4, .int v10_4), (2, .int v10_2), (0, .ref m0), (1, .int a1)] → W p l e (headSpec wsX5_greedyCause rm_X5_greedyCause).room s m ([.ref m0, .int a1] : List Value).toArray below meth c H locs 0 0 (MQ below (Q_X5_greedyCause D cI m0 m1 m2 m3 m4 m5 m6 m7 m8 m9 m10 m11 mr mc me mw mh mn mu ms mt md mz mi mk mo mj ml a1 A) ([.ref m0, .int a1] : List Value).toArray s 0 0 A) (F0 m 35 ls [.int j4]) := by
            intro H locs hP hD hS ls hl
            refine lv_istore_n (lv' := [(3, .int j4), (4, .int v10_4), (2, .int v10_2), (0, .ref m0), (1, .int a1)]) hx hb dX5_greedyCause_35 rfl hl (by decide) rfl (fun ls hl => ?_)
            refine lv_iload_n hx hb dX5_greedyCause_36 rfl (lv_at hl 2 rfl) ?_
            refine lv_iload_n hx hb dX5_greedyCause_37 rfl (lv_at hl 0 rfl) ?_
            obtain ⟨j7, hJ7⟩ : ∃ z : Int32, z = (if 0 ≤ j4 then ((f_X5_explains mu j4) ^^^ (-1)) else (0 : Int32)) := ⟨_, rfl⟩
            rw [← hJ7] at he
            try dsimp only at he
            have hpJ7 := hp.1
            replace hp := hp.2 _  hJ7.symm
            have kont7 : ∀ (H : Heap) (locs : List Loc), va_P D vwCl (W_X5 cI m0 m1 m2 m3 m4 m5 m6 m7 m8 m9 m10 m11 mr mc me mw mh mn mu ms mt md mz mi mk mo mj ml) H → va_D A (W_X5 cI m0 m1 m2 m3 m4 m5 m6 m7 m8 m9 m10 m11 mr mc me mw mh mn mu ms mt md mz mi mk mo mj ml) → va_S A s.heap H locs → ∀ ls : Array Slot, lv_has ls 5 [(3, .int j4), (4, .int v10_4), (0, .ref m0), (1, .int a1)] → W p l e (headSpec wsX5_greedyCause rm_X5_greedyCause).room s m ([.ref m0, .int a1] : List Value).toArray below meth c H locs 0 0 (MQ below (Q_X5_greedyCause D cI m0 m1 m2 m3 m4 m5 m6 m7 m8 m9 m10 m11 mr mc me mw mh mn mu ms mt md mz mi mk mo mj ml a1 A) ([.ref m0, .int a1] : List Value).toArray s 0 0 A) (F0 m 52 ls [.int j7, .int v10_2]) := by
              intro H locs hP hD hS ls hl
              refine lv_iand hx hb dX5_greedyCause_52 ?_
              refine lv_istore_n (lv' := [(2, .int (v10_2 &&& j7)), (3, .int j4), (4, .int v10_4), (0, .ref m0), (1, .int a1)]) hx hb dX5_greedyCause_53 rfl hl (by decide) rfl (fun ls hl => ?_)
              refine lv_iinc (v := (v10_4 + 1)) (lv' := [(4, .int (v10_4 + 1)), (2, .int (v10_2 &&& j7)), (3, .int j4), (0, .ref m0), (1, .int a1)]) hx hb dX5_greedyCause_54 hl (k := 2) rfl rfl (by decide) rfl (fun ls hl => ?_)
              refine lv_goto (tgt := 10) hx hb dX5_greedyCause_57 (by decide) ?_
              exact ih _ _ _ hp he _ _ hP hD hS _ (lv_sub hl [0, 2, 1, 3, 4] rfl)
            replace he := hJ7
            replace hp := hpJ7
            refine lv_if_ge (tgt := 45) hx hb dX5_greedyCause_38 (by decide) (fun c8 => ?_) (fun c8 => ?_)
            · replace hp := hp.1 c8
              replace he := he.trans (if_pos c8)
              refine lv_aload_n hx hb dX5_greedyCause_45 rfl (lv_at hl 3 rfl) ?_
              refine lv_iload_n hx hb dX5_greedyCause_46 rfl (lv_at hl 0 rfl) ?_
              have hq9 := hp.1
              replace hp := hp.2
              refine k_calli (S := Unit) (wc := (W_X5 cI m0 m1 m2 m3 m4 m5 m6 m7 m8 m9 m10 m11 mr mc me mw mh mn mu ms mt md mz mi mk mo mj ml)) (wr := ([] : va_W)) (w1 := fun u => (W_X5 cI m0 m1 m2 m3 m4 m5 m6 m7 m8 m9 m10 m11 mr mc me mw mh mn mu ms mt md mz mi mk mo mj ml)) (fun u => (W_X5 cI m0 m1 m2 m3 m4 m5 m6 m7 m8 m9 m10 m11 mr mc me mw mh mn mu ms mt md mz mi mk mo mj ml)) hP hK hD hN hS hA [0, 1, 2, 3, 4, 5, 6, 7, 8, 9, 10, 11] [] rfl rfl (by decide) (by decide) (by decide) [0, 1, 2, 3, 4, 5, 6, 7, 8, 9, 10, 11] (by decide) (fun _ => rfl) (fun hg => va_runV (As := [.int j4]) (rest := [.int v10_2]) ⟨hx, hb, hml, hown, hts⟩ (c_X5_explains l D cI m0 m1 m2 m3 m4 m5 m6 m7 m8 m9 m10 m11 mr mc me mw mh mn mu ms mt md mz mi mk mo mj ml _ j4 hq9) (cwV 1 hts gX5_greedyCause_X5_explains rfl rfl rfl (by decide +kernel) ⟨Nat.le_of_ble_eq_true rfl, Nat.le_of_ble_eq_true rfl⟩) ⟨PW.blind, va_recv hK hP (ci := 5) (q0 := 0) rfl rfl, fun U hU hW => ⟨rfl, hg U hU hW⟩⟩ rfl rfl hl.1 rfl (lv_room (Nat.le_of_ble_eq_true rfl)) dX5_greedyCause_47 ⟨Nat.le_of_ble_eq_true rfl, Nat.le_of_ble_eq_true rfl⟩) (fun r9 u H locs hw hP hD hS => ?_)
              subst hw
              refine lv_iconst (v := (-1)) hx hb dX5_greedyCause_50 (by decide) ?_
              refine lv_ixor hx hb dX5_greedyCause_51 ?_
              subst he
              exact kont7 _ _ hP hD hS _ (lv_sub hl [0, 1, 3, 4] rfl)
            · replace hp := hp.2 c8
              replace he := he.trans (if_neg c8)
              refine lv_iconst (v := 0) hx hb dX5_greedyCause_41 (by decide) ?_
              refine lv_goto (tgt := 52) hx hb dX5_greedyCause_42 (by decide) ?_
              subst he
              exact kont7 _ _ hP hD hS _ (lv_sub hl [0, 1, 3, 4] rfl)
          replace he := hJ4
          replace hp := hpJ4
          refine lv_if_ne (tgt := 30) hx hb dX5_greedyCause_23 (by decide) (fun c5 => ?_) (fun c5 => ?_)
          · replace hp := hp.2 c5
            replace he := he.trans (if_neg c5)
            refine lv_aload_n hx hb dX5_greedyCause_30 rfl (lv_at hl 3 rfl) ?_
            refine lv_iload_n hx hb dX5_greedyCause_31 rfl (lv_at hl 2 rfl) ?_
            have hq6 := hp.1
            replace hp := hp.2
            refine k_calli (S := Unit) (wc := (W_X5 cI m0 m1 m2 m3 m4 m5 m6 m7 m8 m9 m10 m11 mr mc me mw mh mn mu ms mt md mz mi mk mo mj ml)) (wr := ([] : va_W)) (w1 := fun u => (W_X5 cI m0 m1 m2 m3 m4 m5 m6 m7 m8 m9 m10 m11 mr mc me mw mh mn mu ms mt md mz mi mk mo mj ml)) (fun u => (W_X5 cI m0 m1 m2 m3 m4 m5 m6 m7 m8 m9 m10 m11 mr mc me mw mh mn mu ms mt md mz mi mk mo mj ml)) hP hK hD hN hS hA [0, 1, 2, 3, 4, 5, 6, 7, 8, 9, 10, 11] [] rfl rfl (by decide) (by decide) (by decide) [0, 1, 2, 3, 4, 5, 6, 7, 8, 9, 10, 11] (by decide) (fun _ => rfl) (fun hg => va_runV (As := [.int v10_2]) (rest := []) ⟨hx, hb, hml, hown, hts⟩ (c_X5_joins l D cI m0 m1 m2 m3 m4 m5 m6 m7 m8 m9 m10 m11 mr mc me mw mh mn mu ms mt md mz mi mk mo mj ml _ v10_2 hq6) (cwV 1 hts gX5_greedyCause_X5_joins rfl rfl rfl (by decide +kernel) ⟨Nat.le_of_ble_eq_true rfl, Nat.le_of_ble_eq_true rfl⟩) ⟨PW.blind, va_recv hK hP (ci := 5) (q0 := 0) rfl rfl, fun U hU hW => ⟨rfl, hg U hU hW⟩⟩ rfl rfl hl.1 rfl (lv_room (Nat.le_of_ble_eq_true rfl)) dX5_greedyCause_32 ⟨Nat.le_of_ble_eq_true rfl, Nat.le_of_ble_eq_true rfl⟩) (fun r6 u H locs hw hP hD hS => ?_)
            subst hw
            subst he
            exact kont4 _ _ hP hD hS _ (lv_sub hl [0, 2, 3, 4] rfl)
          · replace hp := hp.1 c5
            replace he := he.trans (if_pos c5)
            refine lv_iconst (v := (-1)) hx hb dX5_greedyCause_26 (by decide) ?_
            refine lv_goto (tgt := 35) hx hb dX5_greedyCause_27 (by decide) ?_
            subst he
            exact kont4 _ _ hP hD hS _ (lv_sub hl [0, 2, 3, 4] rfl)
  exact loop1 16 mr ((-1) : Int32) (0 : Int32) hpL1 hL1 _ _ hP hD hS _ (lv_sub hl [0, 1, 2, 3, 4] rfl)
abbrev rm_X5_causeOf : Room := { frames := 3, cells := 0, slots := 0, locals := 69 }
abbrev Q_X5_causeOf (D : va_G) (cI : ClassId) (m0 m1 m2 m3 m4 m5 m6 m7 m8 m9 m10 m11 : Nat) (mr : Int32) (mc : Int32) (me : Int32) (mw : Int32) (mh : Int32) (mn : AA) (mu : AA) (ms : AA) (mt : AA) (md : AA) (mz : AA) (mi : AA) (mk : AA) (mo : AA) (mj : AA) (ml : AA) (a1 : Int32) (A : Nat → Prop) : Array Value → State → Outcome → State → Prop := va_Qi (S := Int32) (fun r u => f_X5_causeOf mr mn mu a1 = (r, u)) (fun u t => QW D [(cI, .int)] A (W_X5 cI m0 m1 m2 m3 m4 m5 m6 m7 m8 m9 m10 m11 mr mc me mw u mn mu ms mt md mz mi mk mo mj ml) t) A
set_option maxHeartbeats 4000000 in
set_option maxRecDepth 100000 in
theorem c_X5_causeOf (l : Launch)  (D : va_G) (cI : ClassId) (m0 m1 m2 m3 m4 m5 m6 m7 m8 m9 m10 m11 : Nat) (mr : Int32) (mc : Int32) (me : Int32) (mw : Int32) (mh : Int32) (mn : AA) (mu : AA) (ms : AA) (mt : AA) (md : AA) (mz : AA) (mi : AA) (mk : AA) (mo : AA) (mj : AA) (ml : AA) (sz : Nat) (a1 : Int32) (hp : p_X5_causeOf mr mn mu a1) : Met l yX5_causeOf wsX5_causeOf rm_X5_causeOf (va_Pc [.ref m0, .int a1] (PW D [(cI, .int)] sz (W_X5 cI m0 m1 m2 m3 m4 m5 m6 m7 m8 m9 m10 m11 mr mc me mw mh mn mu ms mt md mz mi mk mo mj ml))) (Q_X5_causeOf D cI m0 m1 m2 m3 m4 m5 m6 m7 m8 m9 m10 m11 mr mc me mw mh mn mu ms mt md mz mi mk mo mj ml a1 (va_A (W_X5 cI m0 m1 m2 m3 m4 m5 m6 m7 m8 m9 m10 m11 mr mc me mw mh mn mu ms mt md mz mi mk mo mj ml) sz)) 0 0 (va_A (W_X5 cI m0 m1 m2 m3 m4 m5 m6 m7 m8 m9 m10 m11 mr mc me mw mh mn mu ms mt md mz mi mk mo mj ml) sz) := by
  refine Met.ofW (cc := cX5_causeOf) (maxL := 5) (ret := (some .int)) (by decide) rfl ?_
  intro p e s m args below meth c s₁ B hml hv
  obtain ⟨rfl, hsz, hP, hK, hD0, hN⟩ := hv
  have hx := B.exec
  have hb := B.bytes
  have hr := B.returns
  have hts := atoms_spec (ws := wsX5_causeOf) B.pre
  have hown : s.vm.findClass RX5 = some m.cls := findClass_of_methodNamed B.named
  have hlocks := B.notSynchronized
  subst hsz
  have hD := hD0.self (sz := s.heap.size)
  generalize hAe : va_A (W_X5 cI m0 m1 m2 m3 m4 m5 m6 m7 m8 m9 m10 m11 mr mc me mw mh mn mu ms mt md mz mi mk mo mj ml) s.heap.size = A at hD ⊢
  have hA : ∀ q : Nat, s.heap.size ≤ q → A q := fun q h => by rw [← hAe]; exact Or.inr h
  have hS : va_S A s.heap s.heap [] := va_S.rf
  have hl := lv_entry ([.ref m0, .int a1]) (n := 5) (Nat.le_of_ble_eq_true rfl)
  rw [lg_entry_eq]
  generalize (lg_sl ([.ref m0, .int a1]) ++ List.replicate (5 - (lg_sl ([.ref m0, .int a1])).length) Slot.unset).toArray = ls at hl ⊢
  have hl : lv_has ls 5 [(0, .ref m0), (1, .int a1)] := hl
  have he := f_X5_causeOf.eq_1 mr mn mu a1
  replace hp := Eq.mp (p_X5_causeOf.eq_1 ..) hp
  refine lv_aload_n hx hb dX5_causeOf_0 rfl (lv_at hl 0 rfl) ?_
  refine lv_iload_n hx hb dX5_causeOf_1 rfl (lv_at hl 1 rfl) ?_
  refine k_calli (S := Unit) (wc := ([] : va_W)) (wr := (W_X5 cI m0 m1 m2 m3 m4 m5 m6 m7 m8 m9 m10 m11 mr mc me mw mh mn mu ms mt md mz mi mk mo mj ml)) (w1 := fun u => ([] : va_W)) (fun u => (W_X5 cI m0 m1 m2 m3 m4 m5 m6 m7 m8 m9 m10 m11 mr mc me mw mh mn mu ms mt md mz mi mk mo mj ml)) hP hK hD hN hS hA [] [0, 1, 2, 3, 4, 5, 6, 7, 8, 9, 10, 11] rfl rfl (by decide) (by decide) (by decide) [0, 1, 2, 3, 4, 5, 6, 7, 8, 9, 10, 11] (by decide) (fun _ => rfl) (fun hg => va_runS (As := [.int a1]) (rest := [.ref m0]) ⟨hx, hb, hml, hown, hts⟩ (c_X5_isNode l D cI _ a1) (va_cwS 1 hts gX5_causeOf_X5_isNode rfl rfl rfl (by decide +kernel) ⟨Nat.le_of_ble_eq_true rfl, Nat.le_of_ble_eq_true rfl⟩) ⟨PW.blind, fun U hU hW => ⟨rfl, hg U hU hW⟩⟩ rfl rfl hl.1 rfl (lv_room (Nat.le_of_ble_eq_true rfl)) dX5_causeOf_2 ⟨Nat.le_of_ble_eq_true rfl, Nat.le_of_ble_eq_true rfl⟩) (fun r1 u H locs hw hP hD hS => ?_)
  obtain ⟨hw, hb1⟩ := hw
  subst hw
  refine lv_iconst (v := 1) hx hb dX5_causeOf_5 (by decide) ?_
  refine k_calli (S := Int32) (wc := (W_X5 cI m0 m1 m2 m3 m4 m5 m6 m7 m8 m9 m10 m11 mr mc me mw mh mn mu ms mt md mz mi mk mo mj ml)) (wr := ([] : va_W)) (w1 := fun u => (W_X5 cI m0 m1 m2 m3 m4 m5 m6 m7 m8 m9 m10 m11 mr mc me mw u mn mu ms mt md mz mi mk mo mj ml)) (fun u => (W_X5 cI m0 m1 m2 m3 m4 m5 m6 m7 m8 m9 m10 m11 mr mc me mw u mn mu ms mt md mz mi mk mo mj ml)) hP hK hD hN hS hA [0, 1, 2, 3, 4, 5, 6, 7, 8, 9, 10, 11] [] rfl rfl (by decide) (by decide) (by decide) [0, 1, 2, 3, 4, 5, 6, 7, 8, 9, 10, 11] (by decide) (fun _ => rfl) (fun hg => va_runV (As := [.int (f_X5_isNode a1), .int 1]) (rest := []) ⟨hx, hb, hml, hown, hts⟩ (c_X5_goes l D cI m0 m1 m2 m3 m4 m5 m6 m7 m8 m9 m10 m11 mr mc me mw mh mn mu ms mt md mz mi mk mo mj ml _ (f_X5_isNode a1) 1) (cwV 2 hts gX5_causeOf_X5_goes rfl rfl rfl (by decide +kernel) ⟨Nat.le_of_ble_eq_true rfl, Nat.le_of_ble_eq_true rfl⟩) ⟨PW.blind, va_recv hK hP (ci := 5) (q0 := 0) rfl rfl, fun U hU hW => ⟨rfl, hg U hU hW⟩⟩ rfl rfl hl.1 rfl (lv_room (Nat.le_of_ble_eq_true rfl)) dX5_causeOf_6 ⟨Nat.le_of_ble_eq_true rfl, Nat.le_of_ble_eq_true rfl⟩) (fun r2 u H locs hw hP hD hS => ?_)
  obtain ⟨u2_0, rfl⟩ : ∃ z, z = u := ⟨_, rfl⟩
  obtain ⟨hw, hb2⟩ := hw
  rw [hw] at he
  try dsimp only at he
  replace hp := hp r2 u2_0 hw
  have hP : va_P D vwCl (W_X5 cI m0 m1 m2 m3 m4 m5 m6 m7 m8 m9 m10 m11 mr mc me mw u2_0 mn mu ms mt md mz mi mk mo mj ml) H := hP
  have hD : va_D A (W_X5 cI m0 m1 m2 m3 m4 m5 m6 m7 m8 m9 m10 m11 mr mc me mw u2_0 mn mu ms mt md mz mi mk mo mj ml) := hD
  refine lv_if_ne (tgt := 14) hx hb dX5_causeOf_9 (by decide) (fun c3 => ?_) (fun c3 => ?_)
  · replace hp := hp.2 c3
    replace he := he.trans (if_neg c3)
    refine lv_aload_n hx hb dX5_causeOf_14 rfl (lv_at hl 0 rfl) ?_
    have hq4 := hp.1
    replace hp := hp.2
    refine k_calli (S := Unit) (wc := (W_X5 cI m0 m1 m2 m3 m4 m5 m6 m7 m8 m9 m10 m11 mr mc me mw u2_0 mn mu ms mt md mz mi mk mo mj ml)) (wr := ([] : va_W)) (w1 := fun u => (W_X5 cI m0 m1 m2 m3 m4 m5 m6 m7 m8 m9 m10 m11 mr mc me mw u2_0 mn mu ms mt md mz mi mk mo mj ml)) (fun u => (W_X5 cI m0 m1 m2 m3 m4 m5 m6 m7 m8 m9 m10 m11 mr mc me mw u2_0 mn mu ms mt md mz mi mk mo mj ml)) hP hK hD hN hS hA [0, 1, 2, 3, 4, 5, 6, 7, 8, 9, 10, 11] [] rfl rfl (by decide) (by decide) (by decide) [0, 1, 2, 3, 4, 5, 6, 7, 8, 9, 10, 11] (by decide) (fun _ => rfl) (fun hg => va_runV (As := []) (rest := []) ⟨hx, hb, hml, hown, hts⟩ (c_X5_best l D cI m0 m1 m2 m3 m4 m5 m6 m7 m8 m9 m10 m11 mr mc me mw u2_0 mn mu ms mt md mz mi mk mo mj ml _ hq4) (cwV 0 hts gX5_causeOf_X5_best rfl rfl rfl (by decide +kernel) ⟨Nat.le_of_ble_eq_true rfl, Nat.le_of_ble_eq_true rfl⟩) ⟨PW.blind, va_recv hK hP (ci := 5) (q0 := 0) rfl rfl, fun U hU hW => ⟨rfl, hg U hU hW⟩⟩ rfl rfl hl.1 rfl (lv_room (Nat.le_of_ble_eq_true rfl)) dX5_causeOf_15 ⟨Nat.le_of_ble_eq_true rfl, Nat.le_of_ble_eq_true rfl⟩) (fun r4 u H locs hw hP hD hS => ?_)
    subst hw
    refine lv_istore_n (lv' := [(2, .int (f_X5_best mr mn mu)), (0, .ref m0), (1, .int a1)]) hx hb dX5_causeOf_18 rfl hl (by decide) rfl (fun ls hl => ?_)
    refine lv_iconst (v := (-1)) hx hb dX5_causeOf_19 (by decide) ?_
    refine lv_istore_n (lv' := [(3, .int (-1)), (2, .int (f_X5_best mr mn mu)), (0, .ref m0), (1, .int a1)]) hx hb dX5_causeOf_20 rfl hl (by decide) rfl (fun ls hl => ?_)
    refine lv_bipush (v := 13) hx hb dX5_causeOf_21 (by decide) ?_
    refine lv_istore (lv' := [(4, .int 13), (3, .int (-1)), (2, .int (f_X5_best mr mn mu)), (0, .ref m0), (1, .int a1)]) hx hb dX5_causeOf_23 hl (by decide) rfl (fun ls hl => ?_)
    obtain ⟨⟨r5_v25_3, r5_v25_4⟩, hL5⟩ : ∃ z, z = f_X5_causeOf_L25 mr mn mu a1 15 ((-1) : Int32) (13 : Int32) := ⟨_, rfl⟩
    rw [← hL5] at he
    try dsimp only at he
    have hpL5 := hp.1
    replace hp := hp.2 _ _ hL5.symm
    have kont5 : ∀ (x5_v25_3 : Int32) (x5_v25_4 : Int32), (r5_v25_3, r5_v25_4) = (x5_v25_3, x5_v25_4) → ∀ (H : Heap) (locs : List Loc), va_P D vwCl (W_X5 cI m0 m1 m2 m3 m4 m5 m6 m7 m8 m9 m10 m11 mr mc me mw u2_0 mn mu ms mt md mz mi mk mo mj ml) H → va_D A (W_X5 cI m0 m1 m2 m3 m4 m5 m6 m7 m8 m9 m10 m11 mr mc me mw u2_0 mn mu ms mt md mz mi mk mo mj ml) → va_S A s.heap H locs → ∀ ls : Array Slot, lv_has ls 5 [(3, .int x5_v25_3), (0, .ref m0), (1, .int a1)] → W p l e (headSpec wsX5_causeOf rm_X5_causeOf).room s m ([.ref m0, .int a1] : List Value).toArray below meth c H locs 0 0 (MQ below (Q_X5_causeOf D cI m0 m1 m2 m3 m4 m5 m6 m7 m8 m9 m10 m11 mr mc me mw mh mn mu ms mt md mz mi mk mo mj ml a1 A) ([.ref m0, .int a1] : List Value).toArray s 0 0 A) (F0 m 65 ls []) := by
      intro x5_v25_3 x5_v25_4 hxe H locs hP hD hS ls hl
      simp only [Prod.mk.injEq] at hxe
      obtain ⟨rfl, rfl⟩ := hxe
      refine lv_aload_n hx hb dX5_causeOf_65 rfl (lv_at hl 1 rfl) ?_
      refine va_get (D := D) (ci := 5) (v := .int mr) (C := RX5) (T := TX5) (N := 16) hx hb hts (by decide +kernel) hown hK hP 0 rfl rfl 2 (by decide) (hts (.fieldLink RX5 68 "AlarmgroveModel" "raised" "I") (by decide +kernel)) (fun _ h9 => h9) rfl dX5_causeOf_66 ?_
      refine lv_iload_n hx hb dX5_causeOf_69 rfl (lv_at hl 2 rfl) ?_
      refine k_calli (S := Unit) (wc := ([] : va_W)) (wr := (W_X5 cI m0 m1 m2 m3 m4 m5 m6 m7 m8 m9 m10 m11 mr mc me mw u2_0 mn mu ms mt md mz mi mk mo mj ml)) (w1 := fun u => ([] : va_W)) (fun u => (W_X5 cI m0 m1 m2 m3 m4 m5 m6 m7 m8 m9 m10 m11 mr mc me mw u2_0 mn mu ms mt md mz mi mk mo mj ml)) hP hK hD hN hS hA [] [0, 1, 2, 3, 4, 5, 6, 7, 8, 9, 10, 11] rfl rfl (by decide) (by decide) (by decide) [0, 1, 2, 3, 4, 5, 6, 7, 8, 9, 10, 11] (by decide) (fun _ => rfl) (fun hg => va_runS (As := [.int mr, .int a1]) (rest := []) ⟨hx, hb, hml, hown, hts⟩ (c_X5_has l D cI _ mr a1) (va_cwS 2 hts gX5_causeOf_X5_has rfl rfl rfl (by decide +kernel) ⟨Nat.le_of_ble_eq_true rfl, Nat.le_of_ble_eq_true rfl⟩) ⟨PW.blind, fun U hU hW => ⟨rfl, hg U hU hW⟩⟩ rfl rfl hl.1 rfl (lv_room (Nat.le_of_ble_eq_true rfl)) dX5_causeOf_70 ⟨Nat.le_of_ble_eq_true rfl, Nat.le_of_ble_eq_true rfl⟩) (fun r13 u H locs hw hP hD hS => ?_)
      obtain ⟨hw, hb13⟩ := hw
      subst hw
      obtain ⟨j14, hJ14⟩ : ∃ z : Int32, z = (if (f_X5_has mr a1) = 0 then ((-1) : Int32) else r5_v25_3) := ⟨_, rfl⟩
      rw [← hJ14] at he
      try dsimp only at he
      have hpJ14 := hp.1
      replace hp := hp.2 _  hJ14.symm
      have kont14 : ∀ (H : Heap) (locs : List Loc), va_P D vwCl (W_X5 cI m0 m1 m2 m3 m4 m5 m6 m7 m8 m9 m10 m11 mr mc me mw u2_0 mn mu ms mt md mz mi mk mo mj ml) H → va_D A (W_X5 cI m0 m1 m2 m3 m4 m5 m6 m7 m8 m9 m10 m11 mr mc me mw u2_0 mn mu ms mt md mz mi mk mo mj ml) → va_S A s.heap H locs → ∀ ls : Array Slot, lv_has ls 5 [] → W p l e (headSpec wsX5_causeOf rm_X5_causeOf).room s m ([.ref m0, .int a1] : List Value).toArray below meth c H locs 0 0 (MQ below (Q_X5_causeOf D cI m0 m1 m2 m3 m4 m5 m6 m7 m8 m9 m10 m11 mr mc me mw mh mn mu ms mt md mz mi mk mo mj ml a1 A) ([.ref m0, .int a1] : List Value).toArray s 0 0 A) (F0 m 81 ls [.int j14]) := by
        intro H locs hP hD hS ls hl
        exact W.iret (v := j14) hx hb hr (fun t ht hW => ⟨⟨j14, u2_0, rfl, he, by rw [ht]; exact hP, va_K.moved hW.alike hK, hD⟩, hS.F ht⟩) hS.2.2 dX5_causeOf_81
      replace he := hJ14
      replace hp := hpJ14
      refine lv_if_eq (tgt := 80) hx hb dX5_causeOf_73 (by decide) (fun c15 => ?_) (fun c15 => ?_)
      · replace hp := hp.1 c15
        replace he := he.trans (if_pos c15)
        refine lv_iconst (v := (-1)) hx hb dX5_causeOf_80 (by decide) ?_
        subst he
        exact kont14 _ _ hP hD hS _ (lv_sub hl [] rfl)
      · replace hp := hp.2 c15
        replace he := he.trans (if_neg c15)
        refine lv_iload_n hx hb dX5_causeOf_76 rfl (lv_at hl 0 rfl) ?_
        refine lv_goto (tgt := 81) hx hb dX5_causeOf_77 (by decide) ?_
        subst he
        exact kont14 _ _ hP hD hS _ (lv_sub hl [] rfl)
    have loop5 : ∀ (n : Nat) (v25_3 : Int32) (v25_4 : Int32), p_X5_causeOf_L25 mr mn mu a1 n v25_3 v25_4 → (r5_v25_3, r5_v25_4) = f_X5_causeOf_L25 mr mn mu a1 n v25_3 v25_4 → ∀ (H : Heap) (locs : List Loc), va_P D vwCl (W_X5 cI m0 m1 m2 m3 m4 m5 m6 m7 m8 m9 m10 m11 mr mc me mw u2_0 mn mu ms mt md mz mi mk mo mj ml) H → va_D A (W_X5 cI m0 m1 m2 m3 m4 m5 m6 m7 m8 m9 m10 m11 mr mc me mw u2_0 mn mu ms mt md mz mi mk mo mj ml) → va_S A s.heap H locs → ∀ ls : Array Slot, lv_has ls 5 [(4, .int v25_4), (3, .int v25_3), (2, .int (f_X5_best mr mn mu)), (0, .ref m0), (1, .int a1)] → W p l e (headSpec wsX5_causeOf rm_X5_causeOf).room s m ([.ref m0, .int a1] : List Value).toArray below meth c H locs 0 0 (MQ below (Q_X5_causeOf D cI m0 m1 m2 m3 m4 m5 m6 m7 m8 m9 m10 m11 mr mc me mw mh mn mu ms mt md mz mi mk mo mj ml a1 A) ([.ref m0, .int a1] : List Value).toArray s 0 0 A) (F0 m 25 ls []) := by
      intro n
      induction n with
      | zero => exact fun _ _ hp => hp.elim
      | succ n ih =>
        intro v25_3 v25_4 hp he H locs hP hD hS ls hl
        replace hp := Eq.mp (p_X5_causeOf_L25.eq_2 ..) hp
        replace he := he.trans (f_X5_causeOf_L25.eq_2 ..)
        refine lv_iload hx hb dX5_causeOf_25 (lv_at hl 0 rfl) ?_
        refine lv_if_lt (tgt := 65) hx hb dX5_causeOf_27 (by decide) (fun c6 => ?_) (fun c6 => ?_)
        · replace hp := hp.1 c6
          replace he := he.trans (if_pos c6)
          exact kont5 _ _ he _ _ hP hD hS _ (lv_sub hl [1, 3, 4] rfl)
        · replace hp := hp.2 c6
          replace he := he.trans (if_neg c6)
          refine lv_iload_n hx hb dX5_causeOf_30 rfl (lv_at hl 2 rfl) ?_
          refine lv_iload hx hb dX5_causeOf_31 (lv_at hl 0 rfl) ?_
          refine k_calli (S := Unit) (wc := ([] : va_W)) (wr := (W_X5 cI m0 m1 m2 m3 m4 m5 m6 m7 m8 m9 m10 m11 mr mc me mw u2_0 mn mu ms mt md mz mi mk mo mj ml)) (w1 := fun u => ([] : va_W)) (fun u => (W_X5 cI m0 m1 m2 m3 m4 m5 m6 m7 m8 m9 m10 m11 mr mc me mw u2_0 mn mu ms mt md mz mi mk mo mj ml)) hP hK hD hN hS hA [] [0, 1, 2, 3, 4, 5, 6, 7, 8, 9, 10, 11] rfl rfl (by decide) (by decide) (by decide) [0, 1, 2, 3, 4, 5, 6, 7, 8, 9, 10, 11] (by decide) (fun _ => rfl) (fun hg => va_runS (As := [.int (f_X5_best mr mn mu), .int v25_4]) (rest := []) ⟨hx, hb, hml, hown, hts⟩ (c_X5_has l D cI _ (f_X5_best mr mn mu) v25_4) (va_cwS 2 hts gX5_causeOf_X5_has rfl rfl rfl (by decide +kernel) ⟨Nat.le_of_ble_eq_true rfl, Nat.le_of_ble_eq_true rfl⟩) ⟨PW.blind, fun U hU hW => ⟨rfl, hg U hU hW⟩⟩ rfl rfl hl.1 rfl (lv_room (Nat.le_of_ble_eq_true rfl)) dX5_causeOf_33 ⟨Nat.le_of_ble_eq_true rfl, Nat.le_of_ble_eq_true rfl⟩) (fun r7 u H locs hw hP hD hS => ?_)
          obtain ⟨hw, hb7⟩ := hw
          subst hw
          obtain ⟨j8, hJ8⟩ : ∃ z : Int32, z = (if (f_X5_has (f_X5_best mr mn mu) v25_4) = 0 then v25_3 else (if (f_X5_has (f_X5_explains mu v25_4) a1) = 0 then v25_3 else v25_4)) := ⟨_, rfl⟩
          rw [← hJ8] at he
          try dsimp only at he
          have hpJ8 := hp.1
          replace hp := hp.2 _  hJ8.symm
          have kont8 : ∀ (H : Heap) (locs : List Loc), va_P D vwCl (W_X5 cI m0 m1 m2 m3 m4 m5 m6 m7 m8 m9 m10 m11 mr mc me mw u2_0 mn mu ms mt md mz mi mk mo mj ml) H → va_D A (W_X5 cI m0 m1 m2 m3 m4 m5 m6 m7 m8 m9 m10 m11 mr mc me mw u2_0 mn mu ms mt md mz mi mk mo mj ml) → va_S A s.heap H locs → ∀ ls : Array Slot, lv_has ls 5 [(4, .int v25_4), (2, .int (f_X5_best mr mn mu)), (0, .ref m0), (1, .int a1)] → W p l e (headSpec wsX5_causeOf rm_X5_causeOf).room s m ([.ref m0, .int a1] : List Value).toArray below meth c H locs 0 0 (MQ below (Q_X5_causeOf D cI m0 m1 m2 m3 m4 m5 m6 m7 m8 m9 m10 m11 mr mc me mw mh mn mu ms mt md mz mi mk mo mj ml a1 A) ([.ref m0, .int a1] : List Value).toArray s 0 0 A) (F0 m 58 ls [.int j8]) := by
            intro H locs hP hD hS ls hl
            refine lv_istore_n (lv' := [(3, .int j8), (4, .int v25_4), (2, .int (f_X5_best mr mn mu)), (0, .ref m0), (1, .int a1)]) hx hb dX5_causeOf_58 rfl hl (by decide) rfl (fun ls hl => ?_)
            refine lv_iinc (v := (v25_4 + (-1))) (lv' := [(4, .int (v25_4 + (-1))), (3, .int j8), (2, .int (f_X5_best mr mn mu)), (0, .ref m0), (1, .int a1)]) hx hb dX5_causeOf_59 hl (k := 1) rfl rfl (by decide) rfl (fun ls hl => ?_)
            refine lv_goto (tgt := 25) hx hb dX5_causeOf_62 (by decide) ?_
            exact ih _ _ hp he _ _ hP hD hS _ (lv_sub hl [0, 1, 2, 3, 4] rfl)
          replace he := hJ8
          replace hp := hpJ8
          refine lv_if_eq (tgt := 57) hx hb dX5_causeOf_36 (by decide) (fun c9 => ?_) (fun c9 => ?_)
          · replace hp := hp.1 c9
            replace he := he.trans (if_pos c9)
            refine lv_iload_n hx hb dX5_causeOf_57 rfl (lv_at hl 1 rfl) ?_
            subst he
            exact kont8 _ _ hP hD hS _ (lv_sub hl [0, 2, 3, 4] rfl)
          · replace hp := hp.2 c9
            replace he := he.trans (if_neg c9)
            refine lv_aload_n hx hb dX5_causeOf_39 rfl (lv_at hl 3 rfl) ?_
            refine lv_iload hx hb dX5_causeOf_40 (lv_at hl 0 rfl) ?_
            have hq10 := hp.1
            replace hp := hp.2
            refine k_calli (S := Unit) (wc := (W_X5 cI m0 m1 m2 m3 m4 m5 m6 m7 m8 m9 m10 m11 mr mc me mw u2_0 mn mu ms mt md mz mi mk mo mj ml)) (wr := ([] : va_W)) (w1 := fun u => (W_X5 cI m0 m1 m2 m3 m4 m5 m6 m7 m8 m9 m10 m11 mr mc me mw u2_0 mn mu ms mt md mz mi mk mo mj ml)) (fun u => (W_X5 cI m0 m1 m2 m3 m4 m5 m6 m7 m8 m9 m10 m11 mr mc me mw u2_0 mn mu ms mt md mz mi mk mo mj ml)) hP hK hD hN hS hA [0, 1, 2, 3, 4, 5, 6, 7, 8, 9, 10, 11] [] rfl rfl (by decide) (by decide) (by decide) [0, 1, 2, 3, 4, 5, 6, 7, 8, 9, 10, 11] (by decide) (fun _ => rfl) (fun hg => va_runV (As := [.int v25_4]) (rest := []) ⟨hx, hb, hml, hown, hts⟩ (c_X5_explains l D cI m0 m1 m2 m3 m4 m5 m6 m7 m8 m9 m10 m11 mr mc me mw u2_0 mn mu ms mt md mz mi mk mo mj ml _ v25_4 hq10) (cwV 1 hts gX5_causeOf_X5_explains rfl rfl rfl (by decide +kernel) ⟨Nat.le_of_ble_eq_true rfl, Nat.le_of_ble_eq_true rfl⟩) ⟨PW.blind, va_recv hK hP (ci := 5) (q0 := 0) rfl rfl, fun U hU hW => ⟨rfl, hg U hU hW⟩⟩ rfl rfl hl.1 rfl (lv_room (Nat.le_of_ble_eq_true rfl)) dX5_causeOf_42 ⟨Nat.le_of_ble_eq_true rfl, Nat.le_of_ble_eq_true rfl⟩) (fun r10 u H locs hw hP hD hS => ?_)
            subst hw
            refine lv_iload_n hx hb dX5_causeOf_45 rfl (lv_at hl 4 rfl) ?_
            refine k_calli (S := Unit) (wc := ([] : va_W)) (wr := (W_X5 cI m0 m1 m2 m3 m4 m5 m6 m7 m8 m9 m10 m11 mr mc me mw u2_0 mn mu ms mt md mz mi mk mo mj ml)) (w1 := fun u => ([] : va_W)) (fun u => (W_X5 cI m0 m1 m2 m3 m4 m5 m6 m7 m8 m9 m10 m11 mr mc me mw u2_0 mn mu ms mt md mz mi mk mo mj ml)) hP hK hD hN hS hA [] [0, 1, 2, 3, 4, 5, 6, 7, 8, 9, 10, 11] rfl rfl (by decide) (by decide) (by decide) [0, 1, 2, 3, 4, 5, 6, 7, 8, 9, 10, 11] (by decide) (fun _ => rfl) (fun hg => va_runS (As := [.int (f_X5_explains mu v25_4), .int a1]) (rest := []) ⟨hx, hb, hml, hown, hts⟩ (c_X5_has l D cI _ (f_X5_explains mu v25_4) a1) (va_cwS 2 hts gX5_causeOf_X5_has rfl rfl rfl (by decide +kernel) ⟨Nat.le_of_ble_eq_true rfl, Nat.le_of_ble_eq_true rfl⟩) ⟨PW.blind, fun U hU hW => ⟨rfl, hg U hU hW⟩⟩ rfl rfl hl.1 rfl (lv_room (Nat.le_of_ble_eq_true rfl)) dX5_causeOf_46 ⟨Nat.le_of_ble_eq_true rfl, Nat.le_of_ble_eq_true rfl⟩) (fun r11 u H locs hw hP hD hS => ?_)
            obtain ⟨hw, hb11⟩ := hw
            subst hw
            refine lv_if_eq (tgt := 57) hx hb dX5_causeOf_49 (by decide) (fun c12 => ?_) (fun c12 => ?_)
            · replace hp := hp.1 c12
              replace he := he.trans (if_pos c12)
              refine lv_iload_n hx hb dX5_causeOf_57 rfl (lv_at hl 1 rfl) ?_
              subst he
              exact kont8 _ _ hP hD hS _ (lv_sub hl [0, 2, 3, 4] rfl)
            · replace hp := hp.2 c12
              replace he := he.trans (if_neg c12)
              refine lv_iload hx hb dX5_causeOf_52 (lv_at hl 0 rfl) ?_
              refine lv_goto (tgt := 58) hx hb dX5_causeOf_54 (by decide) ?_
              subst he
              exact kont8 _ _ hP hD hS _ (lv_sub hl [0, 2, 3, 4] rfl)
    exact loop5 15 ((-1) : Int32) (13 : Int32) hpL5 hL5 _ _ hP hD hS _ (lv_sub hl [0, 1, 2, 3, 4] rfl)
  · replace hp := hp.1 c3
    replace he := he.trans (if_pos c3)
    refine lv_iconst (v := 0) hx hb dX5_causeOf_12 (by decide) ?_
    exact W.iret (v := 0) hx hb hr (fun t ht hW => ⟨⟨0, u2_0, rfl, he, by rw [ht]; exact hP, va_K.moved hW.alike hK, hD⟩, hS.F ht⟩) hS.2.2 dX5_causeOf_13
