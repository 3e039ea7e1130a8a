abbrev rm_X0_bestBySearch : Room := { frames := 21, cells := 0, slots := 0, locals := 635 }
abbrev Q_X0_bestBySearch (D : va_G) (cI : ClassId) (d0 g0 g1 g2 g3 g4 : Nat) (dr : Int32) (dp : Int32) (gn : AA) (gu : AA) (gb : AA) (ga : AA) (A : Nat → Prop) : Array Value → State → Outcome → State → Prop := va_Qi (S := Unit) (fun r u => f_X0_bestBySearch dr dp gb ga = r) (fun u t => QW D [(cI, .int)] A (W_X0 cI d0 g0 g1 g2 g3 g4 dr dp gn gu gb ga) t) A
set_option maxHeartbeats 4000000 in
set_option maxRecDepth 100000 in
theorem c_X0_bestBySearch (l : Launch)  (D : va_G) (cI : ClassId) (d0 g0 g1 g2 g3 g4 : Nat) (dr : Int32) (dp : Int32) (gn : AA) (gu : AA) (gb : AA) (ga : AA) (sz : Nat) (hp : p_X0_bestBySearch dr dp gb ga) : Met l yX0_bestBySearch wsX0_bestBySearch rm_X0_bestBySearch (va_Pc [.ref d0] (PW D [(cI, .int)] sz (W_X0 cI d0 g0 g1 g2 g3 g4 dr dp gn gu gb ga))) (Q_X0_bestBySearch D cI d0 g0 g1 g2 g3 g4 dr dp gn gu gb ga (va_A (W_X0 cI d0 g0 g1 g2 g3 g4 dr dp gn gu gb ga) sz)) 0 0 (va_A (W_X0 cI d0 g0 g1 g2 g3 g4 dr dp gn gu gb ga) sz) := by
  refine Met.ofW (cc := cX0_bestBySearch) (maxL := 1) (ret := (some .int)) (by decide) rfl ?_
  intro p e s m args below meth c s₁ B hml hv
  obtain ⟨rfl, hsz, hP, hK, hD0, hN⟩ := hv
  have hx := B.exec
  have hb := B.bytes
  have hr := B.returns
  have hts := atoms_spec (ws := wsX0_bestBySearch) B.pre
  have hown : s.vm.findClass RX0 = some m.cls := findClass_of_methodNamed B.named
  have hlocks := B.notSynchronized
  subst hsz
  have hD := hD0.self (sz := s.heap.size)
  generalize hAe : va_A (W_X0 cI d0 g0 g1 g2 g3 g4 dr dp gn gu gb ga) s.heap.size = A at hD ⊢
  have hA : ∀ q : Nat, s.heap.size ≤ q → A q := fun q h => by rw [← hAe]; exact Or.inr h
  have hS : va_S A s.heap s.heap [] := va_S.rf
  have hl := lv_entry ([.ref d0]) (n := 1) (Nat.le_of_ble_eq_true rfl)
  rw [lg_entry_eq]
  generalize (lg_sl ([.ref d0]) ++ List.replicate (1 - (lg_sl ([.ref d0])).length) Slot.unset).toArray = ls at hl ⊢
  have hl : lv_has ls 1 [(0, .ref d0)] := hl
  have he := f_X0_bestBySearch.eq_1 dr dp gb ga
  replace hp := Eq.mp (p_X0_bestBySearch.eq_1 ..) hp
  refine lv_aload_n hx hb dX0_bestBySearch_0 rfl (lv_at hl 0 rfl) ?_
  refine lv_iconst (v := 0) hx hb dX0_bestBySearch_1 (by decide) ?_
  refine lv_iconst (v := 0) hx hb dX0_bestBySearch_2 (by decide) ?_
  refine lv_aload_n hx hb dX0_bestBySearch_3 rfl (lv_at hl 0 rfl) ?_
  refine va_get (D := D) (ci := 0) (v := .int dr) (C := RX0) (T := TX0) (N := 3) hx hb hts (by decide +kernel) hown hK hP 0 rfl rfl 1 (by decide) (hts (.fieldLink RX0 15 "Alarmgrove$Diagnoser" "raised" "I") (by decide +kernel)) (fun _ h9 => h9) rfl dX0_bestBySearch_4 ?_
  refine lv_aload_n hx hb dX0_bestBySearch_7 rfl (lv_at hl 0 rfl) ?_
  refine va_get (D := D) (ci := 0) (v := .int dp) (C := RX0) (T := TX0) (N := 3) hx hb hts (by decide +kernel) hown hK hP 0 rfl rfl 2 (by decide) (hts (.fieldLink RX0 23 "Alarmgrove$Diagnoser" "plausible" "I") (by decide +kernel)) (fun _ h9 => h9) rfl dX0_bestBySearch_8 ?_
  refine lv_aload_n hx hb dX0_bestBySearch_11 rfl (lv_at hl 0 rfl) ?_
  refine va_get (D := D) (ci := 0) (v := .int dr) (C := RX0) (T := TX0) (N := 3) hx hb hts (by decide +kernel) hown hK hP 0 rfl rfl 1 (by decide) (hts (.fieldLink RX0 15 "Alarmgrove$Diagnoser" "raised" "I") (by decide +kernel)) (fun _ h9 => h9) rfl dX0_bestBySearch_12 ?_
  have hq1 := hp.1
  replace hp := hp.2
  refine k_calli (S := Unit) (wc := (W_X0 cI d0 g0 g1 g2 g3 g4 dr dp gn gu gb ga)) (wr := ([] : va_W)) (w1 := fun u => (W_X0 cI d0 g0 g1 g2 g3 g4 dr dp gn gu gb ga)) (fun u => (W_X0 cI d0 g0 g1 g2 g3 g4 dr dp gn gu gb ga)) hP hK hD hN hS hA [0, 1, 2, 3, 4, 5] [] rfl rfl (by decide) (by decide) (by decide) [0, 1, 2, 3, 4, 5] (by decide) (fun _ => rfl) (fun hg => va_runS (As := [.ref d0, .int 0, .int 0, .int dr, .int dp, .int dr]) (rest := []) ⟨hx, hb, hml, hown, hts⟩ (c_X0_search l D cI d0 g0 g1 g2 g3 g4 dr dp gn gu gb ga 16 _ 0 0 dr dp dr hq1) (va_cwS 6 hts gX0_bestBySearch_X0_search rfl rfl rfl (by decide +kernel) ⟨Nat.le_of_ble_eq_true rfl, Nat.le_of_ble_eq_true rfl⟩) ⟨PW.blind, fun U hU hW => ⟨rfl, hg U hU hW⟩⟩ rfl rfl hl.1 rfl (lv_room (Nat.le_of_ble_eq_true rfl)) dX0_bestBySearch_15 ⟨Nat.le_of_ble_eq_true rfl, Nat.le_of_ble_eq_true rfl⟩) (fun r1 u H locs hw hP hD hS => ?_)
  subst hw
  exact W.iret (v := (f_X0_search dr gb ga 16 (0 : Int32) (0 : Int32) dr dp dr)) hx hb hr (fun t ht hW => ⟨⟨(f_X0_search dr gb ga 16 (0 : Int32) (0 : Int32) dr dp dr), (), rfl, he, by rw [ht]; exact hP, va_K.moved hW.alike hK, hD⟩, hS.F ht⟩) hS.2.2 dX0_bestBySearch_18
abbrev rm_X0_bestByTrying : Room := { frames := 4, cells := 0, slots := 0, locals := 91 }
abbrev Q_X0_bestByTrying (D : va_G) (cI : ClassId) (d0 g0 g1 g2 g3 g4 : Nat) (dr : Int32) (dp : Int32) (gn : AA) (gu : AA) (gb : AA) (ga : AA) (A : Nat → Prop) : Array Value → State → Outcome → State → Prop := va_Qi (S := Unit) (fun r u => f_X0_bestByTrying dr dp gb = r) (fun u t => QW D [(cI, .int)] A (W_X0 cI d0 g0 g1 g2 g3 g4 dr dp gn gu gb ga) t) A
set_option maxHeartbeats 4000000 in
set_option maxRecDepth 100000 in
theorem c_X0_bestByTrying (l : Launch)  (D : va_G) (cI : ClassId) (d0 g0 g1 g2 g3 g4 : Nat) (dr : Int32) (dp : Int32) (gn : AA) (gu : AA) (gb : AA) (ga : AA) (sz : Nat) (hp : p_X0_bestByTrying dr dp gb) : Met l yX0_bestByTrying wsX0_bestByTrying rm_X0_bestByTrying (va_Pc [.ref d0] (PW D [(cI, .int)] sz (W_X0 cI d0 g0 g1 g2 g3 g4 dr dp gn gu gb ga))) (Q_X0_bestByTrying D cI d0 g0 g1 g2 g3 g4 dr dp gn gu gb ga (va_A (W_X0 cI d0 g0 g1 g2 g3 g4 dr dp gn gu gb ga) sz)) 0 0 (va_A (W_X0 cI d0 g0 g1 g2 g3 g4 dr dp gn gu gb ga) sz) := by
  refine Met.ofW (cc := cX0_bestByTrying) (maxL := 5) (ret := (some .int)) (by decide) rfl ?_
  intro p e s m args below meth c s₁ B hml hv
  obtain ⟨rfl, hsz, hP, hK, hD0, hN⟩ := hv
  have hx := B.exec
  have hb := B.bytes
  have hr := B.returns
  have hts := atoms_spec (ws := wsX0_bestByTrying) B.pre
  have hown : s.vm.findClass RX0 = some m.cls := findClass_of_methodNamed B.named
  have hlocks := B.notSynchronized
  subst hsz
  have hD := hD0.self (sz := s.heap.size)
  generalize hAe : va_A (W_X0 cI d0 g0 g1 g2 g3 g4 dr dp gn gu gb ga) s.heap.size = A at hD ⊢
  have hA : ∀ q : Nat, s.heap.size ≤ q → A q := fun q h => by rw [← hAe]; exact Or.inr h
  have hS : va_S A s.heap s.heap [] := va_S.rf
  have hl := lv_entry ([.ref d0]) (n := 5) (Nat.le_of_ble_eq_true rfl)
  rw [lg_entry_eq]
  generalize (lg_sl ([.ref d0]) ++ List.replicate (5 - (lg_sl ([.ref d0])).length) Slot.unset).toArray = ls at hl ⊢
  have hl : lv_has ls 5 [(0, .ref d0)] := hl
  have he := f_X0_bestByTrying.eq_1 dr dp gb
  replace hp := Eq.mp (p_X0_bestByTrying.eq_1 ..) hp
  refine lv_aload_n hx hb dX0_bestByTrying_0 rfl (lv_at hl 0 rfl) ?_
  refine va_get (D := D) (ci := 0) (v := .int dr) (C := RX0) (T := TX0) (N := 3) hx hb hts (by decide +kernel) hown hK hP 0 rfl rfl 1 (by decide) (hts (.fieldLink RX0 15 "Alarmgrove$Diagnoser" "raised" "I") (by decide +kernel)) (fun _ h9 => h9) rfl dX0_bestByTrying_1 ?_
  refine lv_istore_n (lv' := [(1, .int dr), (0, .ref d0)]) hx hb dX0_bestByTrying_4 rfl hl (by decide) rfl (fun ls hl => ?_)
  refine lv_iconst (v := 1) hx hb dX0_bestByTrying_5 (by decide) ?_
  refine lv_aload_n hx hb dX0_bestByTrying_6 rfl (lv_at hl 1 rfl) ?_
  refine va_get (D := D) (ci := 0) (v := .int dp) (C := RX0) (T := TX0) (N := 3) hx hb hts (by decide +kernel) hown hK hP 0 rfl rfl 2 (by decide) (hts (.fieldLink RX0 23 "Alarmgrove$Diagnoser" "plausible" "I") (by decide +kernel)) (fun _ h9 => h9) rfl dX0_bestByTrying_7 ?_
  refine k_calli (S := Unit) (wc := ([] : va_W)) (wr := (W_X0 cI d0 g0 g1 g2 g3 g4 dr dp gn gu gb ga)) (w1 := fun u => ([] : va_W)) (fun u => (W_X0 cI d0 g0 g1 g2 g3 g4 dr dp gn gu gb ga)) hP hK hD hN hS hA [] [0, 1, 2, 3, 4, 5] rfl rfl (by decide) (by decide) (by decide) [0, 1, 2, 3, 4, 5] (by decide) (fun _ => rfl) (fun hg => va_runS (As := [.int dp]) (rest := [.int 1]) ⟨hx, hb, hml, hown, hts⟩ (c_J6_bitCount_0f7a4 l D cI _ dp) (va_cwS 1 hts gX0_bestByTrying_J6_bitCount_0f7a4 rfl rfl rfl (by decide +kernel) ⟨Nat.le_of_ble_eq_true rfl, Nat.le_of_ble_eq_true rfl⟩) ⟨PW.blind, fun U hU hW => ⟨rfl, hg U hU hW⟩⟩ rfl rfl hl.1 rfl (lv_room (Nat.le_of_ble_eq_true rfl)) dX0_bestByTrying_10 ⟨Nat.le_of_ble_eq_true rfl, Nat.le_of_ble_eq_true rfl⟩) (fun r1 u H locs hw hP hD hS => ?_)
  subst hw
  refine lv_ishl hx hb dX0_bestByTrying_13 ?_
  refine lv_istore_n (lv' := [(2, .int (1 <<< ((f_J6_bitCount_0f7a4 dp) &&& 31))), (1, .int dr), (0, .ref d0)]) hx hb dX0_bestByTrying_14 rfl hl (by decide) rfl (fun ls hl => ?_)
  refine lv_iconst (v := 0) hx hb dX0_bestByTrying_15 (by decide) ?_
  refine lv_istore_n (lv' := [(3, .int 0), (2, .int (1 <<< ((f_J6_bitCount_0f7a4 dp) &&& 31))), (1, .int dr), (0, .ref d0)]) hx hb dX0_bestByTrying_16 rfl hl (by decide) rfl (fun ls hl => ?_)
  refine lv_iconst (v := 0) hx hb dX0_bestByTrying_17 (by decide) ?_
  refine lv_istore (lv' := [(4, .int 0), (3, .int 0), (2, .int (1 <<< ((f_J6_bitCount_0f7a4 dp) &&& 31))), (1, .int dr), (0, .ref d0)]) hx hb dX0_bestByTrying_18 hl (by decide) rfl (fun ls hl => ?_)
  obtain ⟨⟨r2_v20_1, r2_v20_3, r2_v20_4⟩, hL2⟩ : ∃ z, z = f_X0_bestByTrying_L20 dr dp gb 16385 dr (0 : Int32) (0 : Int32) := ⟨_, rfl⟩
  rw [← hL2] at he
  try dsimp only at he
  have hpL2 := hp.1
  replace hp := hp.2 _ _ _ hL2.symm
  have kont2 : ∀ (x2_v20_1 : Int32) (x2_v20_3 : Int32) (x2_v20_4 : Int32), (r2_v20_1, r2_v20_3, r2_v20_4) = (x2_v20_1, x2_v20_3, x2_v20_4) → ∀ (H : Heap) (locs : List Loc), va_P D vwCl (W_X0 cI d0 g0 g1 g2 g3 g4 dr dp gn gu gb ga) H → va_D A (W_X0 cI d0 g0 g1 g2 g3 g4 dr dp gn gu gb ga) → va_S A s.heap H locs → ∀ ls : Array Slot, lv_has ls 5 [(1, .int x2_v20_1)] → W p l e (headSpec wsX0_bestByTrying rm_X0_bestByTrying).room s m ([.ref d0] : List Value).toArray below meth c H locs 0 0 (MQ below (Q_X0_bestByTrying D cI d0 g0 g1 g2 g3 g4 dr dp gn gu gb ga A) ([.ref d0] : List Value).toArray s 0 0 A) (F0 m 63 ls []) := by
    intro x2_v20_1 x2_v20_3 x2_v20_4 hxe H locs hP hD hS ls hl
    simp only [Prod.mk.injEq] at hxe
    obtain ⟨rfl, rfl, rfl⟩ := hxe
    refine lv_iload_n hx hb dX0_bestByTrying_63 rfl (lv_at hl 0 rfl) ?_
    exact W.iret (v := r2_v20_1) hx hb hr (fun t ht hW => ⟨⟨r2_v20_1, (), rfl, he, by rw [ht]; exact hP, va_K.moved hW.alike hK, hD⟩, hS.F ht⟩) hS.2.2 dX0_bestByTrying_64
  have loop2 : ∀ (n : Nat) (v20_1 : Int32) (v20_3 : Int32) (v20_4 : Int32), p_X0_bestByTrying_L20 dr dp gb n v20_1 v20_3 v20_4 → (r2_v20_1, r2_v20_3, r2_v20_4) = f_X0_bestByTrying_L20 dr dp gb n v20_1 v20_3 v20_4 → ∀ (H : Heap) (locs : List Loc), va_P D vwCl (W_X0 cI d0 g0 g1 g2 g3 g4 dr dp gn gu gb ga) H → va_D A (W_X0 cI d0 g0 g1 g2 g3 g4 dr dp gn gu gb ga) → va_S A s.heap H locs → ∀ ls : Array Slot, lv_has ls 5 [(4, .int v20_4), (3, .int v20_3), (2, .int (1 <<< ((f_J6_bitCount_0f7a4 dp) &&& 31))), (1, .int v20_1), (0, .ref d0)] → W p l e (headSpec wsX0_bestByTrying rm_X0_bestByTrying).room s m ([.ref d0] : List Value).toArray below meth c H locs 0 0 (MQ below (Q_X0_bestByTrying D cI d0 g0 g1 g2 g3 g4 dr dp gn gu gb ga A) ([.ref d0] : List Value).toArray s 0 0 A) (F0 m 20 ls []) := by
    intro n
    induction n with
    | zero => exact fun _ _ _ hp => hp.elim
    | succ n ih =>
      intro v20_1 v20_3 v20_4 hp he H locs hP hD hS ls hl
      replace hp := Eq.mp (p_X0_bestByTrying_L20.eq_2 ..) hp
      replace he := he.trans (f_X0_bestByTrying_L20.eq_2 ..)
      refine lv_iload hx hb dX0_bestByTrying_20 (lv_at hl 0 rfl) ?_
      refine lv_iload_n hx hb dX0_bestByTrying_22 rfl (lv_at hl 2 rfl) ?_
      refine lv_icmp_ge (tgt := 63) hx hb dX0_bestByTrying_23 (by decide) (fun c3 => ?_) (fun c3 => ?_)
      · replace hp := hp.1 c3
        replace he := he.trans (if_pos c3)
        exact kont2 _ _ _ he _ _ hP hD hS _ (lv_sub hl [3] rfl)
      · replace hp := hp.2 c3
        replace he := he.trans (if_neg c3)
        refine lv_aload_n hx hb dX0_bestByTrying_26 rfl (lv_at hl 4 rfl) ?_
        refine lv_iload_n hx hb dX0_bestByTrying_27 rfl (lv_at hl 1 rfl) ?_
        refine lv_iload_n hx hb dX0_bestByTrying_28 rfl (lv_at hl 3 rfl) ?_
        have hq4 := hp.1
        replace hp := hp.2
        refine k_calli (S := Unit) (wc := (W_X0 cI d0 g0 g1 g2 g3 g4 dr dp gn gu gb ga)) (wr := ([] : va_W)) (w1 := fun u => (W_X0 cI d0 g0 g1 g2 g3 g4 dr dp gn gu gb ga)) (fun u => (W_X0 cI d0 g0 g1 g2 g3 g4 dr dp gn gu gb ga)) hP hK hD hN hS hA [0, 1, 2, 3, 4, 5] [] rfl rfl (by decide) (by decide) (by decide) [0, 1, 2, 3, 4, 5] (by decide) (fun _ => rfl) (fun hg => va_runV (As := [.int v20_3, .int v20_1]) (rest := []) ⟨hx, hb, hml, hown, hts⟩ (c_X0_isBetter l D cI d0 g0 g1 g2 g3 g4 dr dp gn gu gb ga _ v20_3 v20_1 hq4) (cwV 2 hts gX0_bestByTrying_X0_isBetter rfl rfl rfl (by decide +kernel) ⟨Nat.le_of_ble_eq_true rfl, Nat.le_of_ble_eq_true rfl⟩) ⟨PW.blind, va_recv hK hP (ci := 0) (q0 := 0) rfl rfl, fun U hU hW => ⟨rfl, hg U hU hW⟩⟩ rfl rfl hl.1 rfl (lv_room (Nat.le_of_ble_eq_true rfl)) dX0_bestByTrying_29 ⟨Nat.le_of_ble_eq_true rfl, Nat.le_of_ble_eq_true rfl⟩) (fun r4 u H locs hw hP hD hS => ?_)
        obtain ⟨hw, hb4⟩ := hw
        subst hw
        refine lv_if_eq (tgt := 45) hx hb dX0_bestByTrying_32 (by decide) (fun c5 => ?_) (fun c5 => ?_)
        · replace hp := hp.1 c5
          replace he := he.trans (if_pos c5)
          refine lv_iload_n hx hb dX0_bestByTrying_45 rfl (lv_at hl 1 rfl) ?_
          refine lv_aload_n hx hb dX0_bestByTrying_46 rfl (lv_at hl 4 rfl) ?_
          refine va_get (D := D) (ci := 0) (v := .int dp) (C := RX0) (T := TX0) (N := 3) hx hb hts (by decide +kernel) hown hK hP 0 rfl rfl 2 (by decide) (hts (.fieldLink RX0 23 "Alarmgrove$Diagnoser" "plausible" "I") (by decide +kernel)) (fun _ h9 => h9) rfl dX0_bestByTrying_47 ?_
          refine lv_isub hx hb dX0_bestByTrying_50 ?_
          refine lv_aload_n hx hb dX0_bestByTrying_51 rfl (lv_at hl 4 rfl) ?_
          refine va_get (D := D) (ci := 0) (v := .int dp) (C := RX0) (T := TX0) (N := 3) hx hb hts (by decide +kernel) hown hK hP 0 rfl rfl 2 (by decide) (hts (.fieldLink RX0 23 "Alarmgrove$Diagnoser" "plausible" "I") (by decide +kernel)) (fun _ h9 => h9) rfl dX0_bestByTrying_52 ?_
          refine lv_iand hx hb dX0_bestByTrying_55 ?_
          refine lv_istore_n (lv' := [(3, .int ((v20_3 - dp) &&& dp)), (4, .int v20_4), (2, .int (1 <<< ((f_J6_bitCount_0f7a4 dp) &&& 31))), (1, .int v20_1), (0, .ref d0)]) hx hb dX0_bestByTrying_56 rfl hl (by decide) rfl (fun ls hl => ?_)
          refine lv_iinc (v := (v20_4 + 1)) (lv' := [(4, .int (v20_4 + 1)), (3, .int ((v20_3 - dp) &&& dp)), (2, .int (1 <<< ((f_J6_bitCount_0f7a4 dp) &&& 31))), (1, .int v20_1), (0, .ref d0)]) hx hb dX0_bestByTrying_57 hl (k := 1) rfl rfl (by decide) rfl (fun ls hl => ?_)
          refine lv_goto (tgt := 20) hx hb dX0_bestByTrying_60 (by decide) ?_
          exact ih _ _ _ hp he _ _ hP hD hS _ (lv_sub hl [0, 1, 2, 3, 4] rfl)
        · replace hp := hp.2 c5
          replace he := he.trans (if_neg c5)
          refine lv_aload_n hx hb dX0_bestByTrying_35 rfl (lv_at hl 4 rfl) ?_
          refine lv_iload_n hx hb dX0_bestByTrying_36 rfl (lv_at hl 1 rfl) ?_
          have hq6 := hp.1
          replace hp := hp.2
          refine k_calli (S := Unit) (wc := (W_X0 cI d0 g0 g1 g2 g3 g4 dr dp gn gu gb ga)) (wr := ([] : va_W)) (w1 := fun u => (W_X0 cI d0 g0 g1 g2 g3 g4 dr dp gn gu gb ga)) (fun u => (W_X0 cI d0 g0 g1 g2 g3 g4 dr dp gn gu gb ga)) hP hK hD hN hS hA [0, 1, 2, 3, 4, 5] [] rfl rfl (by decide) (by decide) (by decide) [0, 1, 2, 3, 4, 5] (by decide) (fun _ => rfl) (fun hg => va_runV (As := [.int v20_3]) (rest := []) ⟨hx, hb, hml, hown, hts⟩ (c_X0_explainsAll l D cI d0 g0 g1 g2 g3 g4 dr dp gn gu gb ga _ v20_3 hq6) (cwV 1 hts gX0_bestByTrying_X0_explainsAll rfl rfl rfl (by decide +kernel) ⟨Nat.le_of_ble_eq_true rfl, Nat.le_of_ble_eq_true rfl⟩) ⟨PW.blind, va_recv hK hP (ci := 0) (q0 := 0) rfl rfl, fun U hU hW => ⟨rfl, hg U hU hW⟩⟩ rfl rfl hl.1 rfl (lv_room (Nat.le_of_ble_eq_true rfl)) dX0_bestByTrying_37 ⟨Nat.le_of_ble_eq_true rfl, Nat.le_of_ble_eq_true rfl⟩) (fun r6 u H locs hw hP hD hS => ?_)
          obtain ⟨hw, hb6⟩ := hw
          subst hw
          refine lv_if_eq (tgt := 45) hx hb dX0_bestByTrying_40 (by decide) (fun c7 => ?_) (fun c7 => ?_)
          · replace hp := hp.1 c7
            replace he := he.trans (if_pos c7)
            refine lv_iload_n hx hb dX0_bestByTrying_45 rfl (lv_at hl 1 rfl) ?_
            refine lv_aload_n hx hb dX0_bestByTrying_46 rfl (lv_at hl 4 rfl) ?_
            refine va_get (D := D) (ci := 0) (v := .int dp) (C := RX0) (T := TX0) (N := 3) hx hb hts (by decide +kernel) hown hK hP 0 rfl rfl 2 (by decide) (hts (.fieldLink RX0 23 "Alarmgrove$Diagnoser" "plausible" "I") (by decide +kernel)) (fun _ h9 => h9) rfl dX0_bestByTrying_47 ?_
            refine lv_isub hx hb dX0_bestByTrying_50 ?_
            refine lv_aload_n hx hb dX0_bestByTrying_51 rfl (lv_at hl 4 rfl) ?_
            refine va_get (D := D) (ci := 0) (v := .int dp) (C := RX0) (T := TX0) (N := 3) hx hb hts (by decide +kernel) hown hK hP 0 rfl rfl 2 (by decide) (hts (.fieldLink RX0 23 "Alarmgrove$Diagnoser" "plausible" "I") (by decide +kernel)) (fun _ h9 => h9) rfl dX0_bestByTrying_52 ?_
            refine lv_iand hx hb dX0_bestByTrying_55 ?_
            refine lv_istore_n (lv' := [(3, .int ((v20_3 - dp) &&& dp)), (4, .int v20_4), (2, .int (1 <<< ((f_J6_bitCount_0f7a4 dp) &&& 31))), (1, .int v20_1), (0, .ref d0)]) hx hb dX0_bestByTrying_56 rfl hl (by decide) rfl (fun ls hl => ?_)
            refine lv_iinc (v := (v20_4 + 1)) (lv' := [(4, .int (v20_4 + 1)), (3, .int ((v20_3 - dp) &&& dp)), (2, .int (1 <<< ((f_J6_bitCount_0f7a4 dp) &&& 31))), (1, .int v20_1), (0, .ref d0)]) hx hb dX0_bestByTrying_57 hl (k := 1) rfl rfl (by decide) rfl (fun ls hl => ?_)
            refine lv_goto (tgt := 20) hx hb dX0_bestByTrying_60 (by decide) ?_
            exact ih _ _ _ hp he _ _ hP hD hS _ (lv_sub hl [0, 1, 2, 3, 4] rfl)
          · replace hp := hp.2 c7
            replace he := he.trans (if_neg c7)
            refine lv_iload_n hx hb dX0_bestByTrying_43 rfl (lv_at hl 1 rfl) ?_
            refine lv_istore_n (lv' := [(1, .int v20_3), (4, .int v20_4), (3, .int v20_3), (2, .int (1 <<< ((f_J6_bitCount_0f7a4 dp) &&& 31))), (0, .ref d0)]) hx hb dX0_bestByTrying_44 rfl hl (by decide) rfl (fun ls hl => ?_)
            refine lv_iload_n hx hb dX0_bestByTrying_45 rfl (lv_at hl 2 rfl) ?_
            refine lv_aload_n hx hb dX0_bestByTrying_46 rfl (lv_at hl 4 rfl) ?_
            refine va_get (D := D) (ci := 0) (v := .int dp) (C := RX0) (T := TX0) (N := 3) hx hb hts (by decide +kernel) hown hK hP 0 rfl rfl 2 (by decide) (hts (.fieldLink RX0 23 "Alarmgrove$Diagnoser" "plausible" "I") (by decide +kernel)) (fun _ h9 => h9) rfl dX0_bestByTrying_47 ?_
            refine lv_isub hx hb dX0_bestByTrying_50 ?_
            refine lv_aload_n hx hb dX0_bestByTrying_51 rfl (lv_at hl 4 rfl) ?_
            refine va_get (D := D) (ci := 0) (v := .int dp) (C := RX0) (T := TX0) (N := 3) hx hb hts (by decide +kernel) hown hK hP 0 rfl rfl 2 (by decide) (hts (.fieldLink RX0 23 "Alarmgrove$Diagnoser" "plausible" "I") (by decide +kernel)) (fun _ h9 => h9) rfl dX0_bestByTrying_52 ?_
            refine lv_iand hx hb dX0_bestByTrying_55 ?_
            refine lv_istore_n (lv' := [(3, .int ((v20_3 - dp) &&& dp)), (1, .int v20_3), (4, .int v20_4), (2, .int (1 <<< ((f_J6_bitCount_0f7a4 dp) &&& 31))), (0, .ref d0)]) hx hb dX0_bestByTrying_56 rfl hl (by decide) rfl (fun ls hl => ?_)
            refine lv_iinc (v := (v20_4 + 1)) (lv' := [(4, .int (v20_4 + 1)), (3, .int ((v20_3 - dp) &&& dp)), (1, .int v20_3), (2, .int (1 <<< ((f_J6_bitCount_0f7a4 dp) &&& 31))), (0, .ref d0)]) hx hb dX0_bestByTrying_57 hl (k := 2) rfl rfl (by decide) rfl (fun ls hl => ?_)
            refine lv_goto (tgt := 20) hx hb dX0_bestByTrying_60 (by decide) ?_
            exact ih _ _ _ hp he _ _ hP hD hS _ (lv_sub hl [0, 1, 3, 2, 4] rfl)
  exact loop2 16385 dr (0 : Int32) (0 : Int32) hpL2 hL2 _ _ hP hD hS _ (lv_sub hl [0, 1, 2, 3, 4] rfl)
abbrev rm_X0_greedyNext : Room := { frames := 2, cells := 0, slots := 0, locals := 41 }
abbrev Q_X0_greedyNext (D : va_G) (cI : ClassId) (d0 g0 g1 g2 g3 g4 : Nat) (dr : Int32) (dp : Int32) (gn : AA) (gu : AA) (gb : AA) (ga : AA) (a1 : Int32) (A : Nat → Prop) : Array Value → State → Outcome → State → Prop := va_Qi (S := Unit) (fun r u => f_X0_greedyNext dr dp ga a1 = r) (fun u t => QW D [(cI, .int)] A (W_X0 cI d0 g0 g1 g2 g3 g4 dr dp gn gu gb ga) t) A
set_option maxHeartbeats 4000000 in
set_option maxRecDepth 100000 in
theorem c_X0_greedyNext (l : Launch)  (D : va_G) (cI : ClassId) (d0 g0 g1 g2 g3 g4 : Nat) (dr : Int32) (dp : Int32) (gn : AA) (gu : AA) (gb : AA) (ga : AA) (sz : Nat) (a1 : Int32) (hp : p_X0_greedyNext dr dp ga a1) : Met l yX0_greedyNext wsX0_greedyNext rm_X0_greedyNext (va_Pc [.ref d0, .int a1] (PW D [(cI, .int)] sz (W_X0 cI d0 g0 g1 g2 g3 g4 dr dp gn gu gb ga))) (Q_X0_greedyNext D cI d0 g0 g1 g2 g3 g4 dr dp gn gu gb ga a1 (va_A (W_X0 cI d0 g0 g1 g2 g3 g4 dr dp gn gu gb ga) sz)) 0 0 (va_A (W_X0 cI d0 g0 g1 g2 g3 g4 dr dp gn gu gb ga) sz) := by
  refine Met.ofW (cc := cX0_greedyNext) (maxL := 7) (ret := (some .int)) (by decide) rfl ?_
  intro p e s m args below meth c s₁ B hml hv
  obtain ⟨rfl, hsz, hP, hK, hD0, hN⟩ := hv
  have hx := B.exec
  have hb := B.bytes
  have hr := B.returns
  have hts := atoms_spec (ws := wsX0_greedyNext) B.pre
  have hown : s.vm.findClass RX0 = some m.cls := findClass_of_methodNamed B.named
  have hlocks := B.notSynchronized
  subst hsz
  have hD := hD0.self (sz := s.heap.size)
  generalize hAe : va_A (W_X0 cI d0 g0 g1 g2 g3 g4 dr dp gn gu gb ga) s.heap.size = A at hD ⊢
  have hA : ∀ q : Nat, s.heap.size ≤ q → A q := fun q h => by rw [← hAe]; exact Or.inr h
  have hS : va_S A s.heap s.heap [] := va_S.rf
  have hl := lv_entry ([.ref d0, .int a1]) (n := 7) (Nat.le_of_ble_eq_true rfl)
  rw [lg_entry_eq]
  generalize (lg_sl ([.ref d0, .int a1]) ++ List.replicate (7 - (lg_sl ([.ref d0, .int a1])).length) Slot.unset).toArray = ls at hl ⊢
  have hl : lv_has ls 7 [(0, .ref d0), (1, .int a1)] := hl
  have he := f_X0_greedyNext.eq_1 dr dp ga a1
  replace hp := Eq.mp (p_X0_greedyNext.eq_1 ..) hp
  refine lv_iconst (v := 0) hx hb dX0_greedyNext_0 (by decide) ?_
  refine lv_istore_n (lv' := [(2, .int 0), (0, .ref d0), (1, .int a1)]) hx hb dX0_greedyNext_1 rfl hl (by decide) rfl (fun ls hl => ?_)
  refine lv_iconst (v := 0) hx hb dX0_greedyNext_2 (by decide) ?_
  refine lv_istore_n (lv' := [(3, .int 0), (2, .int 0), (0, .ref d0), (1, .int a1)]) hx hb dX0_greedyNext_3 rfl hl (by decide) rfl (fun ls hl => ?_)
  refine lv_iconst (v := 0) hx hb dX0_greedyNext_4 (by decide) ?_
  refine lv_istore (lv' := [(4, .int 0), (3, .int 0), (2, .int 0), (0, .ref d0), (1, .int a1)]) hx hb dX0_greedyNext_5 hl (by decide) rfl (fun ls hl => ?_)
  obtain ⟨⟨r1_v7_2, r1_v7_3, r1_v7_4⟩, hL1⟩ : ∃ z, z = f_X0_greedyNext_L7 dr dp ga a1 15 (0 : Int32) (0 : Int32) (0 : Int32) := ⟨_, rfl⟩
  rw [← hL1] at he
  try dsimp only at he
  have hpL1 := hp.1
  replace hp := hp.2 _ _ _ hL1.symm
  have kont1 : ∀ (x1_v7_2 : Int32) (x1_v7_3 : Int32) (x1_v7_4 : Int32), (r1_v7_2, r1_v7_3, r1_v7_4) = (x1_v7_2, x1_v7_3, x1_v7_4) → ∀ (H : Heap) (locs : List Loc), va_P D vwCl (W_X0 cI d0 g0 g1 g2 g3 g4 dr dp gn gu gb ga) H → va_D A (W_X0 cI d0 g0 g1 g2 g3 g4 dr dp gn gu gb ga) → va_S A s.heap H locs → ∀ ls : Array Slot, lv_has ls 7 [(2, .int x1_v7_2)] → W p l e (headSpec wsX0_greedyNext rm_X0_greedyNext).room s m ([.ref d0, .int a1] : List Value).toArray below meth c H locs 0 0 (MQ below (Q_X0_greedyNext D cI d0 g0 g1 g2 g3 g4 dr dp gn gu gb ga a1 A) ([.ref d0, .int a1] : List Value).toArray s 0 0 A) (F0 m 110 ls []) := by
    intro x1_v7_2 x1_v7_3 x1_v7_4 hxe H locs hP hD hS ls hl
    simp only [Prod.mk.injEq] at hxe
    obtain ⟨rfl, rfl, rfl⟩ := hxe
    refine lv_iload_n hx hb dX0_greedyNext_110 rfl (lv_at hl 0 rfl) ?_
    exact W.iret (v := r1_v7_2) hx hb hr (fun t ht hW => ⟨⟨r1_v7_2, (), rfl, he, by rw [ht]; exact hP, va_K.moved hW.alike hK, hD⟩, hS.F ht⟩) hS.2.2 dX0_greedyNext_111
  have loop1 : ∀ (n : Nat) (v7_2 : Int32) (v7_3 : Int32) (v7_4 : Int32), p_X0_greedyNext_L7 dr dp ga a1 n v7_2 v7_3 v7_4 → (r1_v7_2, r1_v7_3, r1_v7_4) = f_X0_greedyNext_L7 dr dp ga a1 n v7_2 v7_3 v7_4 → ∀ (H : Heap) (locs : List Loc), va_P D vwCl (W_X0 cI d0 g0 g1 g2 g3 g4 dr dp gn gu gb ga) H → va_D A (W_X0 cI d0 g0 g1 g2 g3 g4 dr dp gn gu gb ga) → va_S A s.heap H locs → ∀ ls : Array Slot, lv_has ls 7 [(4, .int v7_4), (3, .int v7_3), (2, .int v7_2), (0, .ref d0), (1, .int a1)] → W p l e (headSpec wsX0_greedyNext rm_X0_greedyNext).room s m ([.ref d0, .int a1] : List Value).toArray below meth c H locs 0 0 (MQ below (Q_X0_greedyNext D cI d0 g0 g1 g2 g3 g4 dr dp gn gu gb ga a1 A) ([.ref d0, .int a1] : List Value).toArray s 0 0 A) (F0 m 7 ls []) := by
    intro n
    induction n with
    | zero => exact fun _ _ _ hp => hp.elim
    | succ n ih =>
      intro v7_2 v7_3 v7_4 hp he H locs hP hD hS ls hl
      replace hp := Eq.mp (p_X0_greedyNext_L7.eq_2 ..) hp
      replace he := he.trans (f_X0_greedyNext_L7.eq_2 ..)
      refine lv_iload hx hb dX0_greedyNext_7 (lv_at hl 0 rfl) ?_
      refine lv_bipush (v := 14) hx hb dX0_greedyNext_9 (by decide) ?_
      refine lv_icmp_ge (tgt := 110) hx hb dX0_greedyNext_11 (by decide) (fun c2 => ?_) (fun c2 => ?_)
      · replace hp := hp.1 c2
        replace he := he.trans (if_pos c2)
        exact kont1 _ _ _ he _ _ hP hD hS _ (lv_sub hl [2] rfl)
      · replace hp := hp.2 c2
        replace he := he.trans (if_neg c2)
        refine lv_aload_n hx hb dX0_greedyNext_14 rfl (lv_at hl 3 rfl) ?_
        refine va_get (D := D) (ci := 0) (v := .int dp) (C := RX0) (T := TX0) (N := 3) hx hb hts (by decide +kernel) hown hK hP 0 rfl rfl 2 (by decide) (hts (.fieldLink RX0 23 "Alarmgrove$Diagnoser" "plausible" "I") (by decide +kernel)) (fun _ h9 => h9) rfl dX0_greedyNext_15 ?_
        refine lv_iload hx hb dX0_greedyNext_18 (lv_at hl 0 rfl) ?_
        refine k_calli (S := Unit) (wc := ([] : va_W)) (wr := (W_X0 cI d0 g0 g1 g2 g3 g4 dr dp gn gu gb ga)) (w1 := fun u => ([] : va_W)) (fun u => (W_X0 cI d0 g0 g1 g2 g3 g4 dr dp gn gu gb ga)) hP hK hD hN hS hA [] [0, 1, 2, 3, 4, 5] rfl rfl (by decide) (by decide) (by decide) [0, 1, 2, 3, 4, 5] (by decide) (fun _ => rfl) (fun hg => va_runSN (As := [.int dp, .int v7_4]) (rest := []) ⟨hx, hb, hml, hown, hts⟩ (c_X4_has l D cI _ dp v7_4) ⟨va_cnB 2 hts gX0_greedyNext_X4_has_n52 rfl rfl rfl (hN.at 2 rfl) (hts (.initialized RX4) (by decide +kernel)) (by decide +kernel) ⟨Nat.le_of_ble_eq_true rfl, Nat.le_of_ble_eq_true rfl⟩, hts (.static yX4_has) (by decide +kernel), trivial⟩ ⟨PW.blind, fun U hU hW => ⟨rfl, hg U hU hW⟩⟩ rfl rfl hl.1 rfl (lv_room (Nat.le_of_ble_eq_true rfl)) dX0_greedyNext_20 ⟨Nat.le_of_ble_eq_true rfl, Nat.le_of_ble_eq_true rfl⟩) (fun r3 u H locs hw hP hD hS => ?_)
        obtain ⟨hw, hb3⟩ := hw
        subst hw
        obtain ⟨j4, hJ4⟩ : ∃ z : Int32, z = (if (f_X4_has dp v7_4) = 0 then (0 : Int32) else (f_J6_bitCount_0f7a4 ((f_X1_explainedBy ga v7_4) &&& a1))) := ⟨_, rfl⟩
        rw [← hJ4] at he
        try dsimp only at he
        have hpJ4 := hp.1
        replace hp := hp.2 _  hJ4.symm
        have kont4 : ∀ (H : Heap) (locs : List Loc), va_P D vwCl (W_X0 cI d0 g0 g1 g2 g3 g4 dr dp gn gu gb ga) H → va_D A (W_X0 cI d0 g0 g1 g2 g3 g4 dr dp gn gu gb ga) → va_S A s.heap H locs → ∀ ls : Array Slot, lv_has ls 7 [(4, .int v7_4), (3, .int v7_3), (2, .int v7_2), (0, .ref d0), (1, .int a1)] → W p l e (headSpec wsX0_greedyNext rm_X0_greedyNext).room s m ([.ref d0, .int a1] : List Value).toArray below meth c H locs 0 0 (MQ below (Q_X0_greedyNext D cI d0 g0 g1 g2 g3 g4 dr dp gn gu gb ga a1 A) ([.ref d0, .int a1] : List Value).toArray s 0 0 A) (F0 m 44 ls [.int j4]) := by
          intro H locs hP hD hS ls hl
          refine lv_istore (lv' := [(5, .int j4), (4, .int v7_4), (3, .int v7_3), (2, .int v7_2), (0, .ref d0), (1, .int a1)]) hx hb dX0_greedyNext_44 hl (by decide) rfl (fun ls hl => ?_)
          refine lv_iload hx hb dX0_greedyNext_46 (lv_at hl 0 rfl) ?_
          refine lv_iload_n hx hb dX0_greedyNext_48 rfl (lv_at hl 2 rfl) ?_
          obtain ⟨j8, hJ8⟩ : ∃ z : Int32, z = (if j4 = v7_3 then (if (f_X4_has dr v7_4) = 0 then (0 : Int32) else (if (f_X4_has dr v7_2) = 0 then (1 : Int32) else (0 : Int32))) else (0 : Int32)) := ⟨_, rfl⟩
          rw [← hJ8] at he
          try dsimp only at he
          have hpJ8 := hp.1
          replace hp := hp.2 _  hJ8.symm
          have kont8 : (j8 = 0 ∨ j8 = 1) → ∀ (H : Heap) (locs : List Loc), va_P D vwCl (W_X0 cI d0 g0 g1 g2 g3 g4 dr dp gn gu gb ga) H → va_D A (W_X0 cI d0 g0 g1 g2 g3 g4 dr dp gn gu gb ga) → va_S A s.heap H locs → ∀ ls : Array Slot, lv_has ls 7 [(5, .int j4), (4, .int v7_4), (3, .int v7_3), (2, .int v7_2), (0, .ref d0), (1, .int a1)] → W p l e (headSpec wsX0_greedyNext rm_X0_greedyNext).room s m ([.ref d0, .int a1] : List Value).toArray below meth c H locs 0 0 (MQ below (Q_X0_greedyNext D cI d0 g0 g1 g2 g3 g4 dr dp gn gu gb ga a1 A) ([.ref d0, .int a1] : List Value).toArray s 0 0 A) (F0 m 80 ls [.int j8]) := by
            intro hb8 H locs hP hD hS ls hl
            refine lv_istore (lv' := [(6, .int j8), (5, .int j4), (4, .int v7_4), (3, .int v7_3), (2, .int v7_2), (0, .ref d0), (1, .int a1)]) hx hb dX0_greedyNext_80 hl (by decide) rfl (fun ls hl => ?_)
            refine lv_iload hx hb dX0_greedyNext_82 (lv_at hl 1 rfl) ?_
            refine lv_iload_n hx hb dX0_greedyNext_84 rfl (lv_at hl 3 rfl) ?_
            refine lv_icmp_gt (tgt := 98) hx hb dX0_greedyNext_85 (by decide) (fun c14 => ?_) (fun c14 => ?_)
            · replace hp := hp.1 c14
              replace he := he.trans (if_pos c14)
              refine lv_iload hx hb dX0_greedyNext_98 (lv_at hl 2 rfl) ?_
              refine lv_istore_n (lv' := [(2, .int v7_4), (6, .int j8), (5, .int j4), (4, .int v7_4), (3, .int v7_3), (0, .ref d0), (1, .int a1)]) hx hb dX0_greedyNext_100 rfl hl (by decide) rfl (fun ls hl => ?_)
              refine lv_iload hx hb dX0_greedyNext_101 (lv_at hl 2 rfl) ?_
              refine lv_istore_n (lv' := [(3, .int j4), (2, .int v7_4), (6, .int j8), (5, .int j4), (4, .int v7_4), (0, .ref d0), (1, .int a1)]) hx hb dX0_greedyNext_103 rfl hl (by decide) rfl (fun ls hl => ?_)
              refine lv_iinc (v := (v7_4 + 1)) (lv' := [(4, .int (v7_4 + 1)), (3, .int j4), (2, .int v7_4), (6, .int j8), (5, .int j4), (0, .ref d0), (1, .int a1)]) hx hb dX0_greedyNext_104 hl (k := 4) rfl rfl (by decide) rfl (fun ls hl => ?_)
              refine lv_goto (tgt := 7) hx hb dX0_greedyNext_107 (by decide) ?_
              exact ih _ _ _ hp he _ _ hP hD hS _ (lv_sub hl [0, 1, 2, 5, 6] rfl)
            · replace hp := hp.2 c14
              replace he := he.trans (if_neg c14)
              refine lv_iload hx hb dX0_greedyNext_88 (lv_at hl 1 rfl) ?_
              refine lv_if_le (tgt := 104) hx hb dX0_greedyNext_90 (by decide) (fun c15 => ?_) (fun c15 => ?_)
              · replace hp := hp.1 c15
                replace he := he.trans (if_pos c15)
                refine lv_iinc (v := (v7_4 + 1)) (lv' := [(4, .int (v7_4 + 1)), (6, .int j8), (5, .int j4), (3, .int v7_3), (2, .int v7_2), (0, .ref d0), (1, .int a1)]) hx hb dX0_greedyNext_104 hl (k := 2) rfl rfl (by decide) rfl (fun ls hl => ?_)
                refine lv_goto (tgt := 7) hx hb dX0_greedyNext_107 (by decide) ?_
                exact ih _ _ _ hp he _ _ hP hD hS _ (lv_sub hl [0, 3, 4, 5, 6] rfl)
              · replace hp := hp.2 c15
                replace he := he.trans (if_neg c15)
                refine lv_iload hx hb dX0_greedyNext_93 (lv_at hl 0 rfl) ?_
                refine lv_if_eq (tgt := 104) hx hb dX0_greedyNext_95 (by decide) (fun c16 => ?_) (fun c16 => ?_)
                · replace hp := hp.1 c16
                  replace he := he.trans (if_pos c16)
                  refine lv_iinc (v := (v7_4 + 1)) (lv' := [(4, .int (v7_4 + 1)), (6, .int j8), (5, .int j4), (3, .int v7_3), (2, .int v7_2), (0, .ref d0), (1, .int a1)]) hx hb dX0_greedyNext_104 hl (k := 2) rfl rfl (by decide) rfl (fun ls hl => ?_)
                  refine lv_goto (tgt := 7) hx hb dX0_greedyNext_107 (by decide) ?_
                  exact ih _ _ _ hp he _ _ hP hD hS _ (lv_sub hl [0, 3, 4, 5, 6] rfl)
                · replace hp := hp.2 c16
                  replace he := he.trans (if_neg c16)
                  refine lv_iload hx hb dX0_greedyNext_98 (lv_at hl 2 rfl) ?_
                  refine lv_istore_n (lv' := [(2, .int v7_4), (6, .int j8), (5, .int j4), (4, .int v7_4), (3, .int v7_3), (0, .ref d0), (1, .int a1)]) hx hb dX0_greedyNext_100 rfl hl (by decide) rfl (fun ls hl => ?_)
                  refine lv_iload hx hb dX0_greedyNext_101 (lv_at hl 2 rfl) ?_
                  refine lv_istore_n (lv' := [(3, .int j4), (2, .int v7_4), (6, .int j8), (5, .int j4), (4, .int v7_4), (0, .ref d0), (1, .int a1)]) hx hb dX0_greedyNext_103 rfl hl (by decide) rfl (fun ls hl => ?_)
                  refine lv_iinc (v := (v7_4 + 1)) (lv' := [(4, .int (v7_4 + 1)), (3, .int j4), (2, .int v7_4), (6, .int j8), (5, .int j4), (0, .ref d0), (1, .int a1)]) hx hb dX0_greedyNext_104 hl (k := 4) rfl rfl (by decide) rfl (fun ls hl => ?_)
                  refine lv_goto (tgt := 7) hx hb dX0_greedyNext_107 (by decide) ?_
                  exact ih _ _ _ hp he _ _ hP hD hS _ (lv_sub hl [0, 1, 2, 5, 6] rfl)
          replace he := hJ8
          replace hp := hpJ8
          refine lv_icmp_ne (tgt := 79) hx hb dX0_greedyNext_49 (by decide) (fun c9 => ?_) (fun c9 => ?_)
          · replace hp := hp.2 c9
            replace he := he.trans (if_neg c9)
            refine lv_iconst (v := 0) hx hb dX0_greedyNext_79 (by decide) ?_
            subst he
            exact kont8 (Or.inl rfl) _ _ hP hD hS _ (lv_sub hl [0, 1, 2, 3, 4, 5] rfl)
          · replace hp := hp.1 c9
            replace he := he.trans (if_pos c9)
            refine lv_aload_n hx hb dX0_greedyNext_52 rfl (lv_at hl 4 rfl) ?_
            refine va_get (D := D) (ci := 0) (v := .int dr) (C := RX0) (T := TX0) (N := 3) hx hb hts (by decide +kernel) hown hK hP 0 rfl rfl 1 (by decide) (hts (.fieldLink RX0 15 "Alarmgrove$Diagnoser" "raised" "I") (by decide +kernel)) (fun _ h9 => h9) rfl dX0_greedyNext_53 ?_
            refine lv_iload hx hb dX0_greedyNext_56 (lv_at hl 1 rfl) ?_
            refine k_calli (S := Unit) (wc := ([] : va_W)) (wr := (W_X0 cI d0 g0 g1 g2 g3 g4 dr dp gn gu gb ga)) (w1 := fun u => ([] : va_W)) (fun u => (W_X0 cI d0 g0 g1 g2 g3 g4 dr dp gn gu gb ga)) hP hK hD hN hS hA [] [0, 1, 2, 3, 4, 5] rfl rfl (by decide) (by decide) (by decide) [0, 1, 2, 3, 4, 5] (by decide) (fun _ => rfl) (fun hg => va_runSN (As := [.int dr, .int v7_4]) (rest := []) ⟨hx, hb, hml, hown, hts⟩ (c_X4_has l D cI _ dr v7_4) ⟨va_cnB 2 hts gX0_greedyNext_X4_has_n52 rfl rfl rfl (hN.at 2 rfl) (hts (.initialized RX4) (by decide +kernel)) (by decide +kernel) ⟨Nat.le_of_ble_eq_true rfl, Nat.le_of_ble_eq_true rfl⟩, hts (.static yX4_has) (by decide +kernel), trivial⟩ ⟨PW.blind, fun U hU hW => ⟨rfl, hg U hU hW⟩⟩ rfl rfl hl.1 rfl (lv_room (Nat.le_of_ble_eq_true rfl)) dX0_greedyNext_58 ⟨Nat.le_of_ble_eq_true rfl, Nat.le_of_ble_eq_true rfl⟩) (fun r10 u H locs hw hP hD hS => ?_)
            obtain ⟨hw, hb10⟩ := hw
            subst hw
            refine lv_if_eq (tgt := 79) hx hb dX0_greedyNext_61 (by decide) (fun c11 => ?_) (fun c11 => ?_)
            · replace hp := hp.1 c11
              replace he := he.trans (if_pos c11)
              refine lv_iconst (v := 0) hx hb dX0_greedyNext_79 (by decide) ?_
              subst he
              exact kont8 (Or.inl rfl) _ _ hP hD hS _ (lv_sub hl [0, 1, 2, 3, 4, 5] rfl)
            · replace hp := hp.2 c11
              replace he := he.trans (if_neg c11)
              refine lv_aload_n hx hb dX0_greedyNext_64 rfl (lv_at hl 4 rfl) ?_
              refine va_get (D := D) (ci := 0) (v := .int dr) (C := RX0) (T := TX0) (N := 3) hx hb hts (by decide +kernel) hown hK hP 0 rfl rfl 1 (by decide) (hts (.fieldLink RX0 15 "Alarmgrove$Diagnoser" "raised" "I") (by decide +kernel)) (fun _ h9 => h9) rfl dX0_greedyNext_65 ?_
              refine lv_iload_n hx hb dX0_greedyNext_68 rfl (lv_at hl 3 rfl) ?_
              refine k_calli (S := Unit) (wc := ([] : va_W)) (wr := (W_X0 cI d0 g0 g1 g2 g3 g4 dr dp gn gu gb ga)) (w1 := fun u => ([] : va_W)) (fun u => (W_X0 cI d0 g0 g1 g2 g3 g4 dr dp gn gu gb ga)) hP hK hD hN hS hA [] [0, 1, 2, 3, 4, 5] rfl rfl (by decide) (by decide) (by decide) [0, 1, 2, 3, 4, 5] (by decide) (fun _ => rfl) (fun hg => va_runSN (As := [.int dr, .int v7_2]) (rest := []) ⟨hx, hb, hml, hown, hts⟩ (c_X4_has l D cI _ dr v7_2) ⟨va_cnB 2 hts gX0_greedyNext_X4_has_n52 rfl rfl rfl (hN.at 2 rfl) (hts (.initialized RX4) (by decide +kernel)) (by decide +kernel) ⟨Nat.le_of_ble_eq_true rfl, Nat.le_of_ble_eq_true rfl⟩, hts (.static yX4_has) (by decide +kernel), trivial⟩ ⟨PW.blind, fun U hU hW => ⟨rfl, hg U hU hW⟩⟩ rfl rfl hl.1 rfl (lv_room (Nat.le_of_ble_eq_true rfl)) dX0_greedyNext_69 ⟨Nat.le_of_ble_eq_true rfl, Nat.le_of_ble_eq_true rfl⟩) (fun r12 u H locs hw hP hD hS => ?_)
              obtain ⟨hw, hb12⟩ := hw
              subst hw
              refine lv_if_ne (tgt := 79) hx hb dX0_greedyNext_72 (by decide) (fun c13 => ?_) (fun c13 => ?_)
              · replace hp := hp.2 c13
                replace he := he.trans (if_neg c13)
                refine lv_iconst (v := 0) hx hb dX0_greedyNext_79 (by decide) ?_
                subst he
                exact kont8 (Or.inl rfl) _ _ hP hD hS _ (lv_sub hl [0, 1, 2, 3, 4, 5] rfl)
              · replace hp := hp.1 c13
                replace he := he.trans (if_pos c13)
                refine lv_iconst (v := 1) hx hb dX0_greedyNext_75 (by decide) ?_
                refine lv_goto (tgt := 80) hx hb dX0_greedyNext_76 (by decide) ?_
                subst he
                exact kont8 (Or.inr rfl) _ _ hP hD hS _ (lv_sub hl [0, 1, 2, 3, 4, 5] rfl)
        replace he := hJ4
        replace hp := hpJ4
        refine lv_if_eq (tgt := 43) hx hb dX0_greedyNext_23 (by decide) (fun c5 => ?_) (fun c5 => ?_)
        · replace hp := hp.1 c5
          replace he := he.trans (if_pos c5)
          refine lv_iconst (v := 0) hx hb dX0_greedyNext_43 (by decide) ?_
          subst he
          exact kont4 _ _ hP hD hS _ (lv_sub hl [0, 1, 2, 3, 4] rfl)
        · replace hp := hp.2 c5
          replace he := he.trans (if_neg c5)
          refine lv_aload_n hx hb dX0_greedyNext_26 rfl (lv_at hl 3 rfl) ?_
          refine va_get (D := D) (ci := 0) (v := .ref g0) (C := RX0) (T := TX0) (N := 3) hx hb hts (by decide +kernel) hown hK hP 0 rfl rfl 0 (by decide) (hts (.fieldLink RX0 9 "Alarmgrove$Diagnoser" "graph" "LAlarmgrove$Graph;") (by decide +kernel)) (fun _ h9 => h9) rfl dX0_greedyNext_27 ?_
          refine lv_iload hx hb dX0_greedyNext_30 (lv_at hl 0 rfl) ?_
          have hq6 := hp.1
          replace hp := hp.2
          refine k_calli (S := Unit) (wc := (W_X1 cI g0 g1 g2 g3 g4 gn gu gb ga)) (wr := [(d0, .inr (0, [.ref g0, .int dr, .int dp]))]) (w1 := fun u => (W_X1 cI g0 g1 g2 g3 g4 gn gu gb ga)) (fun u => (W_X0 cI d0 g0 g1 g2 g3 g4 dr dp gn gu gb ga)) hP hK hD hN hS hA [1, 2, 3, 4, 5] [0] rfl rfl (by decide) (by decide) (by decide) [0, 1, 2, 3, 4, 5] (by decide) (fun _ => rfl) (fun hg => va_runV (As := [.int v7_4]) (rest := []) ⟨hx, hb, hml, hown, hts⟩ (c_X1_explainedBy l D cI g0 g1 g2 g3 g4 gn gu gb ga _ v7_4 hq6) (cwV 1 hts gX0_greedyNext_X1_explainedBy rfl rfl rfl (by decide +kernel) ⟨Nat.le_of_ble_eq_true rfl, Nat.le_of_ble_eq_true rfl⟩) ⟨PW.blind, va_recv hK hP (ci := 1) (q0 := 1) rfl rfl, fun U hU hW => ⟨rfl, hg U hU hW⟩⟩ rfl rfl hl.1 rfl (lv_room (Nat.le_of_ble_eq_true rfl)) dX0_greedyNext_32 ⟨Nat.le_of_ble_eq_true rfl, Nat.le_of_ble_eq_true rfl⟩) (fun r6 u H locs hw hP hD hS => ?_)
          subst hw
          refine lv_iload_n hx hb dX0_greedyNext_35 rfl (lv_at hl 4 rfl) ?_
          refine lv_iand hx hb dX0_greedyNext_36 ?_
          refine k_calli (S := Unit) (wc := ([] : va_W)) (wr := (W_X0 cI d0 g0 g1 g2 g3 g4 dr dp gn gu gb ga)) (w1 := fun u => ([] : va_W)) (fun u => (W_X0 cI d0 g0 g1 g2 g3 g4 dr dp gn gu gb ga)) hP hK hD hN hS hA [] [0, 1, 2, 3, 4, 5] rfl rfl (by decide) (by decide) (by decide) [0, 1, 2, 3, 4, 5] (by decide) (fun _ => rfl) (fun hg => va_runS (As := [.int ((f_X1_explainedBy ga v7_4) &&& a1)]) (rest := []) ⟨hx, hb, hml, hown, hts⟩ (c_J6_bitCount_0f7a4 l D cI _ ((f_X1_explainedBy ga v7_4) &&& a1)) (va_cwS 1 hts gX0_greedyNext_J6_bitCount_0f7a4 rfl rfl rfl (by decide +kernel) ⟨Nat.le_of_ble_eq_true rfl, Nat.le_of_ble_eq_true rfl⟩) ⟨PW.blind, fun U hU hW => ⟨rfl, hg U hU hW⟩⟩ rfl rfl hl.1 rfl (lv_room (Nat.le_of_ble_eq_true rfl)) dX0_greedyNext_37 ⟨Nat.le_of_ble_eq_true rfl, Nat.le_of_ble_eq_true rfl⟩) (fun r7 u H locs hw hP hD hS => ?_)
          subst hw
          refine lv_goto (tgt := 44) hx hb dX0_greedyNext_40 (by decide) ?_
          subst he
          exact kont4 _ _ hP hD hS _ (lv_sub hl [0, 1, 2, 3, 4] rfl)
  exact loop1 15 (0 : Int32) (0 : Int32) (0 : Int32) hpL1 hL1 _ _ hP hD hS _ (lv_sub hl [0, 1, 2, 3, 4] rfl)
abbrev rm_X0_greedyCount : Room := { frames := 3, cells := 0, slots := 0, locals := 67 }
abbrev Q_X0_greedyCount (D : va_G) (cI : ClassId) (d0 g0 g1 g2 g3 g4 : Nat) (dr : Int32) (dp : Int32) (gn : AA) (gu : AA) (gb : AA) (ga : AA) (A : Nat → Prop) : Array Value → State → Outcome → State → Prop := va_Qi (S := Unit) (fun r u => f_X0_greedyCount dr dp ga = r) (fun u t => QW D [(cI, .int)] A (W_X0 cI d0 g0 g1 g2 g3 g4 dr dp gn gu gb ga) t) A
set_option maxHeartbeats 4000000 in
set_option maxRecDepth 100000 in
theorem c_X0_greedyCount (l : Launch)  (D : va_G) (cI : ClassId) (d0 g0 g1 g2 g3 g4 : Nat) (dr : Int32) (dp : Int32) (gn : AA) (gu : AA) (gb : AA) (ga : AA) (sz : Nat) (hp : p_X0_greedyCount dr dp ga) : Met l yX0_greedyCount wsX0_greedyCount rm_X0_greedyCount (va_Pc [.ref d0] (PW D [(cI, .int)] sz (W_X0 cI d0 g0 g1 g2 g3 g4 dr dp gn gu gb ga))) (Q_X0_greedyCount D cI d0 g0 g1 g2 g3 g4 dr dp gn gu gb ga (va_A (W_X0 cI d0 g0 g1 g2 g3 g4 dr dp gn gu gb ga) sz)) 0 0 (va_A (W_X0 cI d0 g0 g1 g2 g3 g4 dr dp gn gu gb ga) sz) := by
  refine Met.ofW (cc := cX0_greedyCount) (maxL := 3) (ret := (some .int)) (by decide) rfl ?_
  intro p e s m args below meth c s₁ B hml hv
  obtain ⟨rfl, hsz, hP, hK, hD0, hN⟩ := hv
  have hx := B.exec
  have hb := B.bytes
  have hr := B.returns
  have hts := atoms_spec (ws := wsX0_greedyCount) B.pre
  have hown : s.vm.findClass RX0 = some m.cls := findClass_of_methodNamed B.named
  have hlocks := B.notSynchronized
  subst hsz
  have hD := hD0.self (sz := s.heap.size)
  generalize hAe : va_A (W_X0 cI d0 g0 g1 g2 g3 g4 dr dp gn gu gb ga) s.heap.size = A at hD ⊢
  have hA : ∀ q : Nat, s.heap.size ≤ q → A q := fun q h => by rw [← hAe]; exact Or.inr h
  have hS : va_S A s.heap s.heap [] := va_S.rf
  have hl := lv_entry ([.ref d0]) (n := 3) (Nat.le_of_ble_eq_true rfl)
  rw [lg_entry_eq]
  generalize (lg_sl ([.ref d0]) ++ List.replicate (3 - (lg_sl ([.ref d0])).length) Slot.unset).toArray = ls at hl ⊢
  have hl : lv_has ls 3 [(0, .ref d0)] := hl
  have he := f_X0_greedyCount.eq_1 dr dp ga
  replace hp := Eq.mp (p_X0_greedyCount.eq_1 ..) hp
  refine lv_aload_n hx hb dX0_greedyCount_0 rfl (lv_at hl 0 rfl) ?_
  refine va_get (D := D) (ci := 0) (v := .int dr) (C := RX0) (T := TX0) (N := 3) hx hb hts (by decide +kernel) hown hK hP 0 rfl rfl 1 (by decide) (hts (.fieldLink RX0 15 "Alarmgrove$Diagnoser" "raised" "I") (by decide +kernel)) (fun _ h9 => h9) rfl dX0_greedyCount_1 ?_
  refine lv_istore_n (lv' := [(1, .int dr), (0, .ref d0)]) hx hb dX0_greedyCount_4 rfl hl (by decide) rfl (fun ls hl => ?_)
  refine lv_iconst (v := 0) hx hb dX0_greedyCount_5 (by decide) ?_
  refine lv_istore_n (lv' := [(2, .int 0), (1, .int dr), (0, .ref d0)]) hx hb dX0_greedyCount_6 rfl hl (by decide) rfl (fun ls hl => ?_)
  obtain ⟨⟨r1_v7_1, r1_v7_2⟩, hL1⟩ : ∃ z, z = f_X0_greedyCount_L7 dr dp ga 15 dr (0 : Int32) := ⟨_, rfl⟩
  rw [← hL1] at he
  try dsimp only at he
  have hpL1 := hp.1
  replace hp := hp.2 _ _ hL1.symm
  have kont1 : ∀ (x1_v7_1 : Int32) (x1_v7_2 : Int32), (r1_v7_1, r1_v7_2) = (x1_v7_1, x1_v7_2) → ∀ (H : Heap) (locs : List Loc), va_P D vwCl (W_X0 cI d0 g0 g1 g2 g3 g4 dr dp gn gu gb ga) H → va_D A (W_X0 cI d0 g0 g1 g2 g3 g4 dr dp gn gu gb ga) → va_S A s.heap H locs → ∀ ls : Array Slot, lv_has ls 3 [(2, .int x1_v7_2)] → W p l e (headSpec wsX0_greedyCount rm_X0_greedyCount).room s m ([.ref d0] : List Value).toArray below meth c H locs 0 0 (MQ below (Q_X0_greedyCount D cI d0 g0 g1 g2 g3 g4 dr dp gn gu gb ga A) ([.ref d0] : List Value).toArray s 0 0 A) (F0 m 40 ls []) := by
    intro x1_v7_1 x1_v7_2 hxe H locs hP hD hS ls hl
    simp only [Prod.mk.injEq] at hxe
    obtain ⟨rfl, rfl⟩ := hxe
    refine lv_iload_n hx hb dX0_greedyCount_40 rfl (lv_at hl 0 rfl) ?_
    exact W.iret (v := r1_v7_2) hx hb hr (fun t ht hW => ⟨⟨r1_v7_2, (), rfl, he, by rw [ht]; exact hP, va_K.moved hW.alike hK, hD⟩, hS.F ht⟩) hS.2.2 dX0_greedyCount_41
  have loop1 : ∀ (n : Nat) (v7_1 : Int32) (v7_2 : Int32), p_X0_greedyCount_L7 dr dp ga n v7_1 v7_2 → (r1_v7_1, r1_v7_2) = f_X0_greedyCount_L7 dr dp ga n v7_1 v7_2 → ∀ (H : Heap) (locs : List Loc), va_P D vwCl (W_X0 cI d0 g0 g1 g2 g3 g4 dr dp gn gu gb ga) H → va_D A (W_X0 cI d0 g0 g1 g2 g3 g4 dr dp gn gu gb ga) → va_S A s.heap H locs → ∀ ls : Array Slot, lv_has ls 3 [(2, .int v7_2), (1, .int v7_1), (0, .ref d0)] → W p l e (headSpec wsX0_greedyCount rm_X0_greedyCount).room s m ([.ref d0] : List Value).toArray below meth c H locs 0 0 (MQ below (Q_X0_greedyCount D cI d0 g0 g1 g2 g3 g4 dr dp gn gu gb ga A) ([.ref d0] : List Value).toArray s 0 0 A) (F0 m 7 ls []) := by
    intro n
    induction n with
    | zero => exact fun _ _ hp => hp.elim
    | succ n ih =>
      intro v7_1 v7_2 hp he H locs hP hD hS ls hl
      replace hp := Eq.mp (p_X0_greedyCount_L7.eq_2 ..) hp
      replace he := he.trans (f_X0_greedyCount_L7.eq_2 ..)
      refine lv_iload_n hx hb dX0_greedyCount_7 rfl (lv_at hl 1 rfl) ?_
      refine lv_if_eq (tgt := 40) hx hb dX0_greedyCount_8 (by decide) (fun c2 => ?_) (fun c2 => ?_)
      · replace hp := hp.1 c2
        replace he := he.trans (if_pos c2)
        exact kont1 _ _ he _ _ hP hD hS _ (lv_sub hl [0] rfl)
      · replace hp := hp.2 c2
        replace he := he.trans (if_neg c2)
        refine lv_iload_n hx hb dX0_greedyCount_11 rfl (lv_at hl 0 rfl) ?_
        refine lv_bipush (v := 14) hx hb dX0_greedyCount_12 (by decide) ?_
        refine lv_icmp_ge (tgt := 40) hx hb dX0_greedyCount_14 (by decide) (fun c3 => ?_) (fun c3 => ?_)
        · replace hp := hp.1 c3
          replace he := he.trans (if_pos c3)
          exact kont1 _ _ he _ _ hP hD hS _ (lv_sub hl [0] rfl)
        · replace hp := hp.2 c3
          replace he := he.trans (if_neg c3)
          refine lv_iload_n hx hb dX0_greedyCount_17 rfl (lv_at hl 1 rfl) ?_
          refine lv_aload_n hx hb dX0_greedyCount_18 rfl (lv_at hl 2 rfl) ?_
          refine va_get (D := D) (ci := 0) (v := .ref g0) (C := RX0) (T := TX0) (N := 3) hx hb hts (by decide +kernel) hown hK hP 0 rfl rfl 0 (by decide) (hts (.fieldLink RX0 9 "Alarmgrove$Diagnoser" "graph" "LAlarmgrove$Graph;") (by decide +kernel)) (fun _ h9 => h9) rfl dX0_greedyCount_19 ?_
          refine lv_aload_n hx hb dX0_greedyCount_22 rfl (lv_at hl 2 rfl) ?_
          refine lv_iload_n hx hb dX0_greedyCount_23 rfl (lv_at hl 1 rfl) ?_
          have hq4 := hp.1
          replace hp := hp.2
          refine k_calli (S := Unit) (wc := (W_X0 cI d0 g0 g1 g2 g3 g4 dr dp gn gu gb ga)) (wr := ([] : va_W)) (w1 := fun u => (W_X0 cI d0 g0 g1 g2 g3 g4 dr dp gn gu gb ga)) (fun u => (W_X0 cI d0 g0 g1 g2 g3 g4 dr dp gn gu gb ga)) hP hK hD hN hS hA [0, 1, 2, 3, 4, 5] [] rfl rfl (by decide) (by decide) (by decide) [0, 1, 2, 3, 4, 5] (by decide) (fun _ => rfl) (fun hg => va_runV (As := [.int v7_1]) (rest := [.ref g0, .int v7_1]) ⟨hx, hb, hml, hown, hts⟩ (c_X0_greedyNext l D cI d0 g0 g1 g2 g3 g4 dr dp gn gu gb ga _ v7_1 hq4) (cwV 1 hts gX0_greedyCount_X0_greedyNext rfl rfl rfl (by decide +kernel) ⟨Nat.le_of_ble_eq_true rfl, Nat.le_of_ble_eq_true rfl⟩) ⟨PW.blind, va_recv hK hP (ci := 0) (q0 := 0) rfl rfl, fun U hU hW => ⟨rfl, hg U hU hW⟩⟩ rfl rfl hl.1 rfl (lv_room (Nat.le_of_ble_eq_true rfl)) dX0_greedyCount_24 ⟨Nat.le_of_ble_eq_true rfl, Nat.le_of_ble_eq_true rfl⟩) (fun r4 u H locs hw hP hD hS => ?_)
          subst hw
          have hq5 := hp.1
          replace hp := hp.2
          refine k_calli (S := Unit) (wc := (W_X1 cI g0 g1 g2 g3 g4 gn gu gb ga)) (wr := [(d0, .inr (0, [.ref g0, .int dr, .int dp]))]) (w1 := fun u => (W_X1 cI g0 g1 g2 g3 g4 gn gu gb ga)) (fun u => (W_X0 cI d0 g0 g1 g2 g3 g4 dr dp gn gu gb ga)) hP hK hD hN hS hA [1, 2, 3, 4, 5] [0] rfl rfl (by decide) (by decide) (by decide) [0, 1, 2, 3, 4, 5] (by decide) (fun _ => rfl) (fun hg => va_runV (As := [.int (f_X0_greedyNext dr dp ga v7_1)]) (rest := [.int v7_1]) ⟨hx, hb, hml, hown, hts⟩ (c_X1_explainedBy l D cI g0 g1 g2 g3 g4 gn gu gb ga _ (f_X0_greedyNext dr dp ga v7_1) hq5) (cwV 1 hts gX0_greedyCount_X1_explainedBy rfl rfl rfl (by decide +kernel) ⟨Nat.le_of_ble_eq_true rfl, Nat.le_of_ble_eq_true rfl⟩) ⟨PW.blind, va_recv hK hP (ci := 1) (q0 := 1) rfl rfl, fun U hU hW => ⟨rfl, hg U hU hW⟩⟩ rfl rfl hl.1 rfl (lv_room (Nat.le_of_ble_eq_true rfl)) dX0_greedyCount_27 ⟨Nat.le_of_ble_eq_true rfl, Nat.le_of_ble_eq_true rfl⟩) (fun r5 u H locs hw hP hD hS => ?_)
          subst hw
          refine lv_iconst (v := (-1)) hx hb dX0_greedyCount_30 (by decide) ?_
          refine lv_ixor hx hb dX0_greedyCount_31 ?_
          refine lv_iand hx hb dX0_greedyCount_32 ?_
          refine lv_topi (fun y6_1 hy6 => ?_)
          rw [← hy6] at he
          try dsimp only at he
          replace hp := hp y6_1 hy6.symm
          refine lv_istore_n (lv' := [(1, .int y6_1), (2, .int v7_2), (0, .ref d0)]) hx hb dX0_greedyCount_33 rfl hl (by decide) rfl (fun ls hl => ?_)
          refine lv_iinc (v := (v7_2 + 1)) (lv' := [(2, .int (v7_2 + 1)), (1, .int y6_1), (0, .ref d0)]) hx hb dX0_greedyCount_34 hl (k := 1) rfl rfl (by decide) rfl (fun ls hl => ?_)
          refine lv_goto (tgt := 7) hx hb dX0_greedyCount_37 (by decide) ?_
          exact ih _ _ hp he _ _ hP hD hS _ (lv_sub hl [0, 1, 2] rfl)
  exact loop1 15 dr (0 : Int32) hpL1 hL1 _ _ hP hD hS _ (lv_sub hl [0, 1, 2] rfl)
abbrev rm_X0_greedyAt : Room := { frames := 3, cells := 0, slots := 0, locals := 67 }
abbrev Q_X0_greedyAt (D : va_G) (cI : ClassId) (d0 g0 g1 g2 g3 g4 : Nat) (dr : Int32) (dp : Int32) (gn : AA) (gu : AA) (gb : AA) (ga : AA) (a1 : Int32) (A : Nat → Prop) : Array Value → State → Outcome → State → Prop := va_Qi (S := Unit) (fun r u => f_X0_greedyAt dr dp ga a1 = r) (fun u t => QW D [(cI, .int)] A (W_X0 cI d0 g0 g1 g2 g3 g4 dr dp gn gu gb ga) t) A
set_option maxHeartbeats 4000000 in
set_option maxRecDepth 100000 in
theorem c_X0_greedyAt (l : Launch)  (D : va_G) (cI : ClassId) (d0 g0 g1 g2 g3 g4 : Nat) (dr : Int32) (dp : Int32) (gn : AA) (gu : AA) (gb : AA) (ga : AA) (sz : Nat) (a1 : Int32) (hp : p_X0_greedyAt dr dp ga a1) : Met l yX0_greedyAt wsX0_greedyAt rm_X0_greedyAt (va_Pc [.ref d0, .int a1] (PW D [(cI, .int)] sz (W_X0 cI d0 g0 g1 g2 g3 g4 dr dp gn gu gb ga))) (Q_X0_greedyAt D cI d0 g0 g1 g2 g3 g4 dr dp gn gu gb ga a1 (va_A (W_X0 cI d0 g0 g1 g2 g3 g4 dr dp gn gu gb ga) sz)) 0 0 (va_A (W_X0 cI d0 g0 g1 g2 g3 g4 dr dp gn gu gb ga) sz) := by
  refine Met.ofW (cc := cX0_greedyAt) (maxL := 5) (ret := (some .int)) (by decide) rfl ?_
  intro p e s m args below meth c s₁ B hml hv
  obtain ⟨rfl, hsz, hP, hK, hD0, hN⟩ := hv
  have hx := B.exec
  have hb := B.bytes
  have hr := B.returns
  have hts := atoms_spec (ws := wsX0_greedyAt) B.pre
  have hown : s.vm.findClass RX0 = some m.cls := findClass_of_methodNamed B.named
  have hlocks := B.notSynchronized
  subst hsz
  have hD := hD0.self (sz := s.heap.size)
  generalize hAe : va_A (W_X0 cI d0 g0 g1 g2 g3 g4 dr dp gn gu gb ga) s.heap.size = A at hD ⊢
  have hA : ∀ q : Nat, s.heap.size ≤ q → A q := fun q h => by rw [← hAe]; exact Or.inr h
  have hS : va_S A s.heap s.heap [] := va_S.rf
  have hl := lv_entry ([.ref d0, .int a1]) (n := 5) (Nat.le_of_ble_eq_true rfl)
  rw [lg_entry_eq]
  generalize (lg_sl ([.ref d0, .int a1]) ++ List.replicate (5 - (lg_sl ([.ref d0, .int a1])).length) Slot.unset).toArray = ls at hl ⊢
  have hl : lv_has ls 5 [(0, .ref d0), (1, .int a1)] := hl
  have he := f_X0_greedyAt.eq_1 dr dp ga a1
  replace hp := Eq.mp (p_X0_greedyAt.eq_1 ..) hp
  refine lv_aload_n hx hb dX0_greedyAt_0 rfl (lv_at hl 0 rfl) ?_
  refine va_get (D := D) (ci := 0) (v := .int dr) (C := RX0) (T := TX0) (N := 3) hx hb hts (by decide +kernel) hown hK hP 0 rfl rfl 1 (by decide) (hts (.fieldLink RX0 15 "Alarmgrove$Diagnoser" "raised" "I") (by decide +kernel)) (fun _ h9 => h9) rfl dX0_greedyAt_1 ?_
  refine lv_istore_n (lv' := [(2, .int dr), (0, .ref d0), (1, .int a1)]) hx hb dX0_greedyAt_4 rfl hl (by decide) rfl (fun ls hl => ?_)
  refine lv_iconst (v := 0) hx hb dX0_greedyAt_5 (by decide) ?_
  refine lv_istore_n (lv' := [(3, .int 0), (2, .int dr), (0, .ref d0), (1, .int a1)]) hx hb dX0_greedyAt_6 rfl hl (by decide) rfl (fun ls hl => ?_)
  have loop1 : ∀ (n : Nat) (v7_2 : Int32) (v7_3 : Int32), p_X0_greedyAt_L7 dr dp ga a1 n v7_2 v7_3 → f_X0_greedyAt dr dp ga a1 = f_X0_greedyAt_L7 dr dp ga a1 n v7_2 v7_3 → ∀ (H : Heap) (locs : List Loc), va_P D vwCl (W_X0 cI d0 g0 g1 g2 g3 g4 dr dp gn gu gb ga) H → va_D A (W_X0 cI d0 g0 g1 g2 g3 g4 dr dp gn gu gb ga) → va_S A s.heap H locs → ∀ ls : Array Slot, lv_has ls 5 [(3, .int v7_3), (2, .int v7_2), (0, .ref d0), (1, .int a1)] → W p l e (headSpec wsX0_greedyAt rm_X0_greedyAt).room s m ([.ref d0, .int a1] : List Value).toArray below meth c H locs 0 0 (MQ below (Q_X0_greedyAt D cI d0 g0 g1 g2 g3 g4 dr dp gn gu gb ga a1 A) ([.ref d0, .int a1] : List Value).toArray s 0 0 A) (F0 m 7 ls []) := by
    intro n
    induction n with
    | zero => exact fun _ _ hp => hp.elim
    | succ n ih =>
      intro v7_2 v7_3 hp he H locs hP hD hS ls hl
      replace hp := Eq.mp (p_X0_greedyAt_L7.eq_2 ..) hp
      replace he := he.trans (f_X0_greedyAt_L7.eq_2 ..)
      refine lv_iload_n hx hb dX0_greedyAt_7 rfl (lv_at hl 0 rfl) ?_
      refine lv_bipush (v := 14) hx hb dX0_greedyAt_8 (by decide) ?_
      refine lv_icmp_ge (tgt := 52) hx hb dX0_greedyAt_10 (by decide) (fun c2 => ?_) (fun c2 => ?_)
      · replace hp := hp.1 c2
        replace he := he.trans (if_pos c2)
        refine lv_iconst (v := (-1)) hx hb dX0_greedyAt_52 (by decide) ?_
        exact W.iret (v := (-1)) hx hb hr (fun t ht hW => ⟨⟨(-1), (), rfl, he, by rw [ht]; exact hP, va_K.moved hW.alike hK, hD⟩, hS.F ht⟩) hS.2.2 dX0_greedyAt_53
      · replace hp := hp.2 c2
        replace he := he.trans (if_neg c2)
        refine lv_iload_n hx hb dX0_greedyAt_13 rfl (lv_at hl 1 rfl) ?_
        refine lv_if_eq (tgt := 52) hx hb dX0_greedyAt_14 (by decide) (fun c3 => ?_) (fun c3 => ?_)
        · replace hp := hp.1 c3
          replace he := he.trans (if_pos c3)
          refine lv_iconst (v := (-1)) hx hb dX0_greedyAt_52 (by decide) ?_
          exact W.iret (v := (-1)) hx hb hr (fun t ht hW => ⟨⟨(-1), (), rfl, he, by rw [ht]; exact hP, va_K.moved hW.alike hK, hD⟩, hS.F ht⟩) hS.2.2 dX0_greedyAt_53
        · replace hp := hp.2 c3
          replace he := he.trans (if_neg c3)
          refine lv_aload_n hx hb dX0_greedyAt_17 rfl (lv_at hl 2 rfl) ?_
          refine lv_iload_n hx hb dX0_greedyAt_18 rfl (lv_at hl 1 rfl) ?_
          have hq4 := hp.1
          replace hp := hp.2
          refine k_calli (S := Unit) (wc := (W_X0 cI d0 g0 g1 g2 g3 g4 dr dp gn gu gb ga)) (wr := ([] : va_W)) (w1 := fun u => (W_X0 cI d0 g0 g1 g2 g3 g4 dr dp gn gu gb ga)) (fun u => (W_X0 cI d0 g0 g1 g2 g3 g4 dr dp gn gu gb ga)) hP hK hD hN hS hA [0, 1, 2, 3, 4, 5] [] rfl rfl (by decide) (by decide) (by decide) [0, 1, 2, 3, 4, 5] (by decide) (fun _ => rfl) (fun hg => va_runV (As := [.int v7_2]) (rest := []) ⟨hx, hb, hml, hown, hts⟩ (c_X0_greedyNext l D cI d0 g0 g1 g2 g3 g4 dr dp gn gu gb ga _ v7_2 hq4) (cwV 1 hts gX0_greedyAt_X0_greedyNext rfl rfl rfl (by decide +kernel) ⟨Nat.le_of_ble_eq_true rfl, Nat.le_of_ble_eq_true rfl⟩) ⟨PW.blind, va_recv hK hP (ci := 0) (q0 := 0) rfl rfl, fun U hU hW => ⟨rfl, hg U hU hW⟩⟩ rfl rfl hl.1 rfl (lv_room (Nat.le_of_ble_eq_true rfl)) dX0_greedyAt_19 ⟨Nat.le_of_ble_eq_true rfl, Nat.le_of_ble_eq_true rfl⟩) (fun r4 u H locs hw hP hD hS => ?_)
          subst hw
          refine lv_istore (lv' := [(4, .int (f_X0_greedyNext dr dp ga v7_2)), (3, .int v7_3), (2, .int v7_2), (0, .ref d0), (1, .int a1)]) hx hb dX0_greedyAt_22 hl (by decide) rfl (fun ls hl => ?_)
          refine lv_iload_n hx hb dX0_greedyAt_24 rfl (lv_at hl 1 rfl) ?_
          refine lv_iload_n hx hb dX0_greedyAt_25 rfl (lv_at hl 4 rfl) ?_
          refine lv_icmp_ne (tgt := 32) hx hb dX0_greedyAt_26 (by decide) (fun c5 => ?_) (fun c5 => ?_)
          · replace hp := hp.2 c5
            replace he := he.trans (if_neg c5)
            refine lv_iload_n hx hb dX0_greedyAt_32 rfl (lv_at hl 2 rfl) ?_
            refine lv_aload_n hx hb dX0_greedyAt_33 rfl (lv_at hl 3 rfl) ?_
            refine va_get (D := D) (ci := 0) (v := .ref g0) (C := RX0) (T := TX0) (N := 3) hx hb hts (by decide +kernel) hown hK hP 0 rfl rfl 0 (by decide) (hts (.fieldLink RX0 9 "Alarmgrove$Diagnoser" "graph" "LAlarmgrove$Graph;") (by decide +kernel)) (fun _ h9 => h9) rfl dX0_greedyAt_34 ?_
            refine lv_iload hx hb dX0_greedyAt_37 (lv_at hl 0 rfl) ?_
            have hq6 := hp.1
            replace hp := hp.2
            refine k_calli (S := Unit) (wc := (W_X1 cI g0 g1 g2 g3 g4 gn gu gb ga)) (wr := [(d0, .inr (0, [.ref g0, .int dr, .int dp]))]) (w1 := fun u => (W_X1 cI g0 g1 g2 g3 g4 gn gu gb ga)) (fun u => (W_X0 cI d0 g0 g1 g2 g3 g4 dr dp gn gu gb ga)) hP hK hD hN hS hA [1, 2, 3, 4, 5] [0] rfl rfl (by decide) (by decide) (by decide) [0, 1, 2, 3, 4, 5] (by decide) (fun _ => rfl) (fun hg => va_runV (As := [.int (f_X0_greedyNext dr dp ga v7_2)]) (rest := [.int v7_2]) ⟨hx, hb, hml, hown, hts⟩ (c_X1_explainedBy l D cI g0 g1 g2 g3 g4 gn gu gb ga _ (f_X0_greedyNext dr dp ga v7_2) hq6) (cwV 1 hts gX0_greedyAt_X1_explainedBy rfl rfl rfl (by decide +kernel) ⟨Nat.le_of_ble_eq_true rfl, Nat.le_of_ble_eq_true rfl⟩) ⟨PW.blind, va_recv hK hP (ci := 1) (q0 := 1) rfl rfl, fun U hU hW => ⟨rfl, hg U hU hW⟩⟩ rfl rfl hl.1 rfl (lv_room (Nat.le_of_ble_eq_true rfl)) dX0_greedyAt_39 ⟨Nat.le_of_ble_eq_true rfl, Nat.le_of_ble_eq_true rfl⟩) (fun r6 u H locs hw hP hD hS => ?_)
            subst hw
            refine lv_iconst (v := (-1)) hx hb dX0_greedyAt_42 (by decide) ?_
            refine lv_ixor hx hb dX0_greedyAt_43 ?_
            refine lv_iand hx hb dX0_greedyAt_44 ?_
            refine lv_topi (fun y7_2 hy7 => ?_)
            rw [← hy7] at he
            try dsimp only at he
            replace hp := hp y7_2 hy7.symm
            refine lv_istore_n (lv' := [(2, .int y7_2), (4, .int (f_X0_greedyNext dr dp ga v7_2)), (3, .int v7_3), (0, .ref d0), (1, .int a1)]) hx hb dX0_greedyAt_45 rfl hl (by decide) rfl (fun ls hl => ?_)
            refine lv_iinc (v := (v7_3 + 1)) (lv' := [(3, .int (v7_3 + 1)), (2, .int y7_2), (4, .int (f_X0_greedyNext dr dp ga v7_2)), (0, .ref d0), (1, .int a1)]) hx hb dX0_greedyAt_46 hl (k := 2) rfl rfl (by decide) rfl (fun ls hl => ?_)
            refine lv_goto (tgt := 7) hx hb dX0_greedyAt_49 (by decide) ?_
            exact ih _ _ hp he _ _ hP hD hS _ (lv_sub hl [0, 1, 3, 4] rfl)
          · replace hp := hp.1 c5
            replace he := he.trans (if_pos c5)
            refine lv_iload hx hb dX0_greedyAt_29 (lv_at hl 0 rfl) ?_
            exact W.iret (v := (f_X0_greedyNext dr dp ga v7_2)) hx hb hr (fun t ht hW => ⟨⟨(f_X0_greedyNext dr dp ga v7_2), (), rfl, he, by rw [ht]; exact hP, va_K.moved hW.alike hK, hD⟩, hS.F ht⟩) hS.2.2 dX0_greedyAt_31
  exact loop1 15 dr (0 : Int32) hp he _ _ hP hD hS _ (lv_sub hl [0, 1, 2, 3] rfl)
