abbrev rm_X1_step : Room := { frames := 2, cells := 0, slots := 0, locals := 41 }
abbrev Q_X1_step (D : va_G) (cI : ClassId) (k0 : Nat) (kl : AA) (a1 : Int32) (A : Nat → Prop) : Array Value → State → Outcome → State → Prop := va_Qi (S := Unit) (fun r u => f_X1_step kl a1 = r) (fun u t => QW D [(cI, .int)] A (W_A cI k0 kl) t) A
set_option maxHeartbeats 4000000 in
set_option maxRecDepth 100000 in
theorem c_X1_step (l : Launch)  (D : va_G) (cI : ClassId) (k0 : Nat) (kl : AA) (sz : Nat) (a1 : Int32) (hp : p_X1_step kl a1) : Met l yX1_step wsX1_step rm_X1_step (va_Pc [.ref k0, .int a1] (PW D [(cI, .int)] sz (W_A cI k0 kl))) (Q_X1_step D cI k0 kl a1 (va_A (W_A cI k0 kl) sz)) 0 0 (va_A (W_A cI k0 kl) sz) := by
  refine Met.ofW (cc := cX1_step) (maxL := 4) (ret := (some .int)) (by decide) rfl ?_
  intro p e s m args below meth c s₁ B hml hv
  obtain ⟨rfl, hsz, hP, hK, hD0, hN⟩ := hv
  have hx := B.exec
  have hb := B.bytes
  have hr := B.returns
  have hts := atoms_spec (ws := wsX1_step) B.pre
  have hown : s.vm.findClass RX1 = some m.cls := findClass_of_methodNamed B.named
  have hlocks := B.notSynchronized
  subst hsz
  have hD := hD0.self (sz := s.heap.size)
  generalize hAe : va_A (W_A cI k0 kl) s.heap.size = A at hD ⊢
  have hA : ∀ q : Nat, s.heap.size ≤ q → A q := fun q h => by rw [← hAe]; exact Or.inr h
  have hS : va_S A s.heap s.heap [] := va_S.rf
  have hl := lv_entry ([.ref k0, .int a1]) (n := 4) (Nat.le_of_ble_eq_true rfl)
  rw [lg_entry_eq]
  generalize (lg_sl ([.ref k0, .int a1]) ++ List.replicate (4 - (lg_sl ([.ref k0, .int a1])).length) Slot.unset).toArray = ls at hl ⊢
  have hl : lv_has ls 4 [(0, .ref k0), (1, .int a1)] := hl
  have he := f_X1_step.eq_1 kl a1
  replace hp := Eq.mp (p_X1_step.eq_1 ..) hp
  refine lv_iconst (v := 0) hx hb dX1_step_0 (by decide) ?_
  refine lv_istore_n (lv' := [(2, .int 0), (0, .ref k0), (1, .int a1)]) hx hb dX1_step_1 rfl hl (by decide) rfl (fun ls hl => ?_)
  refine lv_iconst (v := 0) hx hb dX1_step_2 (by decide) ?_
  refine lv_istore_n (lv' := [(3, .int 0), (2, .int 0), (0, .ref k0), (1, .int a1)]) hx hb dX1_step_3 rfl hl (by decide) rfl (fun ls hl => ?_)
  obtain ⟨⟨r1_v4_2, r1_v4_3⟩, hL1⟩ : ∃ z, z = f_X1_step_L4 kl a1 15 (0 : Int32) (0 : Int32) := ⟨_, rfl⟩
  rw [← hL1] at he
  try dsimp only at he
  have hpL1 := hp.1
  replace hp := hp.2 _ _ hL1.symm
  have kont1 : ∀ (x1_v4_2 : Int32) (x1_v4_3 : Int32), (r1_v4_2, r1_v4_3) = (x1_v4_2, x1_v4_3) → ∀ (H : Heap) (locs : List Loc), va_P D vwCl (W_A cI k0 kl) H → va_D A (W_A cI k0 kl) → va_S A s.heap H locs → ∀ ls : Array Slot, lv_has ls 4 [(2, .int x1_v4_2)] → W p l e (headSpec wsX1_step rm_X1_step).room s m ([.ref k0, .int a1] : List Value).toArray below meth c H locs 0 0 (MQ below (Q_X1_step D cI k0 kl a1 A) ([.ref k0, .int a1] : List Value).toArray s 0 0 A) (F0 m 30 ls []) := by
    intro x1_v4_2 x1_v4_3 hxe H locs hP hD hS ls hl
    simp only [Prod.mk.injEq] at hxe
    obtain ⟨rfl, rfl⟩ := hxe
    refine lv_iload_n hx hb dX1_step_30 rfl (lv_at hl 0 rfl) ?_
    exact W.iret (v := r1_v4_2) hx hb hr (fun t ht hW => ⟨⟨r1_v4_2, (), rfl, he, by rw [ht]; exact hP, va_K.moved hW.alike hK, hD⟩, hS.F ht⟩) hS.2.2 dX1_step_31
  have loop1 : ∀ (n : Nat) (v4_2 : Int32) (v4_3 : Int32), p_X1_step_L4 kl a1 n v4_2 v4_3 → (r1_v4_2, r1_v4_3) = f_X1_step_L4 kl a1 n v4_2 v4_3 → ∀ (H : Heap) (locs : List Loc), va_P D vwCl (W_A cI k0 kl) H → va_D A (W_A cI k0 kl) → va_S A s.heap H locs → ∀ ls : Array Slot, lv_has ls 4 [(3, .int v4_3), (2, .int v4_2), (0, .ref k0), (1, .int a1)] → W p l e (headSpec wsX1_step rm_X1_step).room s m ([.ref k0, .int a1] : List Value).toArray below meth c H locs 0 0 (MQ below (Q_X1_step D cI k0 kl a1 A) ([.ref k0, .int a1] : List Value).toArray s 0 0 A) (F0 m 4 ls []) := by
    intro n
    induction n with
    | zero => exact fun _ _ hp => hp.elim
    | succ n ih =>
      intro v4_2 v4_3 hp he H locs hP hD hS ls hl
      replace hp := Eq.mp (p_X1_step_L4.eq_2 ..) hp
      replace he := he.trans (f_X1_step_L4.eq_2 ..)
      refine lv_iload_n hx hb dX1_step_4 rfl (lv_at hl 0 rfl) ?_
      refine lv_bipush (v := 14) hx hb dX1_step_5 (by decide) ?_
      refine lv_icmp_ge (tgt := 30) hx hb dX1_step_7 (by decide) (fun c2 => ?_) (fun c2 => ?_)
      · replace hp := hp.1 c2
        replace he := he.trans (if_pos c2)
        exact kont1 _ _ he _ _ hP hD hS _ (lv_sub hl [1] rfl)
      · replace hp := hp.2 c2
        replace he := he.trans (if_neg c2)
        refine lv_iload_n hx hb dX1_step_10 rfl (lv_at hl 3 rfl) ?_
        refine lv_iload_n hx hb dX1_step_11 rfl (lv_at hl 0 rfl) ?_
        refine k_calli (S := Unit) (wc := ([] : va_W)) (wr := (W_A cI k0 kl)) (w1 := fun u => ([] : va_W)) (fun u => (W_A cI k0 kl)) hP hK hD hN hS hA [] [0] rfl rfl (by decide) (by decide) (by decide) [0] (by decide) (fun _ => rfl) (fun hg => va_runSN (As := [.int a1, .int v4_3]) (rest := []) ⟨hx, hb, hml, hown, hts⟩ (c_X4_has l D cI _ a1 v4_3) ⟨va_cnB 2 hts gX1_step_X4_has_n28 rfl rfl rfl (hN.at 6 rfl) (hts (.initialized RX4) (by decide +kernel)) (by decide +kernel) ⟨Nat.le_of_ble_eq_true rfl, Nat.le_of_ble_eq_true rfl⟩, hts (.static yX4_has) (by decide +kernel), trivial⟩ ⟨PW.blind, fun U hU hW => ⟨rfl, hg U hU hW⟩⟩ rfl rfl hl.1 rfl (lv_room (Nat.le_of_ble_eq_true rfl)) dX1_step_12 ⟨Nat.le_of_ble_eq_true rfl, Nat.le_of_ble_eq_true rfl⟩) (fun r3 u H locs hw hP hD hS => ?_)
        obtain ⟨hw, hb3⟩ := hw
        subst hw
        refine lv_if_eq (tgt := 24) hx hb dX1_step_15 (by decide) (fun c4 => ?_) (fun c4 => ?_)
        · replace hp := hp.1 c4
          replace he := he.trans (if_pos c4)
          refine lv_iinc (v := (v4_3 + 1)) (lv' := [(3, .int (v4_3 + 1)), (2, .int v4_2), (0, .ref k0), (1, .int a1)]) hx hb dX1_step_24 hl (k := 0) rfl rfl (by decide) rfl (fun ls hl => ?_)
          refine lv_goto (tgt := 4) hx hb dX1_step_27 (by decide) ?_
          exact ih _ _ hp he _ _ hP hD hS _ (lv_sub hl [0, 1, 2, 3] rfl)
        · replace hp := hp.2 c4
          replace he := he.trans (if_neg c4)
          refine lv_iload_n hx hb dX1_step_18 rfl (lv_at hl 1 rfl) ?_
          refine lv_aload_n hx hb dX1_step_19 rfl (lv_at hl 2 rfl) ?_
          refine lv_iload_n hx hb dX1_step_20 rfl (lv_at hl 0 rfl) ?_
          have h5 := hp.1
          replace hp := hp.2
          refine va_iald hx hb hK hP 0 0 rfl rfl h5 dX1_step_21 ?_
          refine lv_ior hx hb dX1_step_22 ?_
          refine lv_istore_n (lv' := [(2, .int (v4_2 ||| (kl (v4_3).toNatClampNeg))), (3, .int v4_3), (0, .ref k0), (1, .int a1)]) hx hb dX1_step_23 rfl hl (by decide) rfl (fun ls hl => ?_)
          refine lv_iinc (v := (v4_3 + 1)) (lv' := [(3, .int (v4_3 + 1)), (2, .int (v4_2 ||| (kl (v4_3).toNatClampNeg))), (0, .ref k0), (1, .int a1)]) hx hb dX1_step_24 hl (k := 1) rfl rfl (by decide) rfl (fun ls hl => ?_)
          refine lv_goto (tgt := 4) hx hb dX1_step_27 (by decide) ?_
          exact ih _ _ hp he _ _ hP hD hS _ (lv_sub hl [0, 1, 2, 3] rfl)
  exact loop1 15 (0 : Int32) (0 : Int32) hpL1 hL1 _ _ hP hD hS _ (lv_sub hl [0, 1, 2, 3] rfl)
abbrev rm_X1_follow : Room := { frames := 3, cells := 0, slots := 0, locals := 64 }
abbrev Q_X1_follow (D : va_G) (cI : ClassId) (k0 : Nat) (kl : AA) (a1 : Int32) (A : Nat → Prop) : Array Value → State → Outcome → State → Prop := va_Qi (S := Unit) (fun r u => f_X1_follow kl a1 = r) (fun u t => QW D [(cI, .int)] A (W_A cI k0 kl) t) A
set_option maxHeartbeats 4000000 in
set_option maxRecDepth 100000 in
theorem c_X1_follow (l : Launch)  (D : va_G) (cI : ClassId) (k0 : Nat) (kl : AA) (sz : Nat) (a1 : Int32) (hp : p_X1_follow kl a1) : Met l yX1_follow wsX1_follow rm_X1_follow (va_Pc [.ref k0, .int a1] (PW D [(cI, .int)] sz (W_A cI k0 kl))) (Q_X1_follow D cI k0 kl a1 (va_A (W_A cI k0 kl) sz)) 0 0 (va_A (W_A cI k0 kl) sz) := by
  refine Met.ofW (cc := cX1_follow) (maxL := 5) (ret := (some .int)) (by decide) rfl ?_
  intro p e s m args below meth c s₁ B hml hv
  obtain ⟨rfl, hsz, hP, hK, hD0, hN⟩ := hv
  have hx := B.exec
  have hb := B.bytes
  have hr := B.returns
  have hts := atoms_spec (ws := wsX1_follow) B.pre
  have hown : s.vm.findClass RX1 = some m.cls := findClass_of_methodNamed B.named
  have hlocks := B.notSynchronized
  subst hsz
  have hD := hD0.self (sz := s.heap.size)
  generalize hAe : va_A (W_A cI k0 kl) s.heap.size = A at hD ⊢
  have hA : ∀ q : Nat, s.heap.size ≤ q → A q := fun q h => by rw [← hAe]; exact Or.inr h
  have hS : va_S A s.heap s.heap [] := va_S.rf
  have hl := lv_entry ([.ref k0, .int a1]) (n := 5) (Nat.le_of_ble_eq_true rfl)
  rw [lg_entry_eq]
  generalize (lg_sl ([.ref k0, .int a1]) ++ List.replicate (5 - (lg_sl ([.ref k0, .int a1])).length) Slot.unset).toArray = ls at hl ⊢
  have hl : lv_has ls 5 [(0, .ref k0), (1, .int a1)] := hl
  have he := f_X1_follow.eq_1 kl a1
  replace hp := Eq.mp (p_X1_follow.eq_1 ..) hp
  refine lv_iconst (v := 0) hx hb dX1_follow_0 (by decide) ?_
  refine lv_istore_n (lv' := [(2, .int 0), (0, .ref k0), (1, .int a1)]) hx hb dX1_follow_1 rfl hl (by decide) rfl (fun ls hl => ?_)
  refine lv_iload_n hx hb dX1_follow_2 rfl (lv_at hl 2 rfl) ?_
  refine k_calli (S := Unit) (wc := ([] : va_W)) (wr := (W_A cI k0 kl)) (w1 := fun u => ([] : va_W)) (fun u => (W_A cI k0 kl)) hP hK hD hN hS hA [] [0] rfl rfl (by decide) (by decide) (by decide) [0] (by decide) (fun _ => rfl) (fun hg => va_runSN (As := [.int a1]) (rest := []) ⟨hx, hb, hml, hown, hts⟩ (c_X4_only l D cI _ a1) ⟨va_cnB 1 hts gX1_follow_X4_only_n24 rfl rfl rfl (hN.at 5 rfl) (hts (.initialized RX4) (by decide +kernel)) (by decide +kernel) ⟨Nat.le_of_ble_eq_true rfl, Nat.le_of_ble_eq_true rfl⟩, hts (.static yX4_only) (by decide +kernel), trivial⟩ ⟨PW.blind, fun U hU hW => ⟨rfl, hg U hU hW⟩⟩ rfl rfl hl.1 rfl (lv_room (Nat.le_of_ble_eq_true rfl)) dX1_follow_3 ⟨Nat.le_of_ble_eq_true rfl, Nat.le_of_ble_eq_true rfl⟩) (fun r1 u H locs hw hP hD hS => ?_)
  subst hw
  refine lv_istore_n (lv' := [(3, .int (f_X4_only a1)), (2, .int 0), (0, .ref k0), (1, .int a1)]) hx hb dX1_follow_6 rfl hl (by decide) rfl (fun ls hl => ?_)
  refine lv_iconst (v := 0) hx hb dX1_follow_7 (by decide) ?_
  refine lv_istore (lv' := [(4, .int 0), (3, .int (f_X4_only a1)), (2, .int 0), (0, .ref k0), (1, .int a1)]) hx hb dX1_follow_8 hl (by decide) rfl (fun ls hl => ?_)
  obtain ⟨⟨r2_v10_2, r2_v10_3, r2_v10_4⟩, hL2⟩ : ∃ z, z = f_X1_follow_L10 kl 15 (0 : Int32) (f_X4_only a1) (0 : Int32) := ⟨_, rfl⟩
  rw [← hL2] at he
  try dsimp only at he
  have hpL2 := hp.1
  replace hp := hp.2 _ _ _ hL2.symm
  have kont2 : ∀ (x2_v10_2 : Int32) (x2_v10_3 : Int32) (x2_v10_4 : Int32), (r2_v10_2, r2_v10_3, r2_v10_4) = (x2_v10_2, x2_v10_3, x2_v10_4) → ∀ (H : Heap) (locs : List Loc), va_P D vwCl (W_A cI k0 kl) H → va_D A (W_A cI k0 kl) → va_S A s.heap H locs → ∀ ls : Array Slot, lv_has ls 5 [(2, .int x2_v10_2)] → W p l e (headSpec wsX1_follow rm_X1_follow).room s m ([.ref k0, .int a1] : List Value).toArray below meth c H locs 0 0 (MQ below (Q_X1_follow D cI k0 kl a1 A) ([.ref k0, .int a1] : List Value).toArray s 0 0 A) (F0 m 37 ls []) := by
    intro x2_v10_2 x2_v10_3 x2_v10_4 hxe H locs hP hD hS ls hl
    simp only [Prod.mk.injEq] at hxe
    obtain ⟨rfl, rfl, rfl⟩ := hxe
    refine lv_iload_n hx hb dX1_follow_37 rfl (lv_at hl 0 rfl) ?_
    exact W.iret (v := r2_v10_2) hx hb hr (fun t ht hW => ⟨⟨r2_v10_2, (), rfl, he, by rw [ht]; exact hP, va_K.moved hW.alike hK, hD⟩, hS.F ht⟩) hS.2.2 dX1_follow_38
  have loop2 : ∀ (n : Nat) (v10_2 : Int32) (v10_3 : Int32) (v10_4 : Int32), p_X1_follow_L10 kl n v10_2 v10_3 v10_4 → (r2_v10_2, r2_v10_3, r2_v10_4) = f_X1_follow_L10 kl n v10_2 v10_3 v10_4 → ∀ (H : Heap) (locs : List Loc), va_P D vwCl (W_A cI k0 kl) H → va_D A (W_A cI k0 kl) → va_S A s.heap H locs → ∀ ls : Array Slot, lv_has ls 5 [(4, .int v10_4), (3, .int v10_3), (2, .int v10_2), (0, .ref k0)] → W p l e (headSpec wsX1_follow rm_X1_follow).room s m ([.ref k0, .int a1] : List Value).toArray below meth c H locs 0 0 (MQ below (Q_X1_follow D cI k0 kl a1 A) ([.ref k0, .int a1] : List Value).toArray s 0 0 A) (F0 m 10 ls []) := by
    intro n
    induction n with
    | zero => exact fun _ _ _ hp => hp.elim
    | succ n ih =>
      intro v10_2 v10_3 v10_4 hp he H locs hP hD hS ls hl
      replace hp := Eq.mp (p_X1_follow_L10.eq_2 ..) hp
      replace he := he.trans (f_X1_follow_L10.eq_2 ..)
      refine lv_iload hx hb dX1_follow_10 (lv_at hl 0 rfl) ?_
      refine lv_bipush (v := 14) hx hb dX1_follow_12 (by decide) ?_
      refine lv_icmp_ge (tgt := 37) hx hb dX1_follow_14 (by decide) (fun c3 => ?_) (fun c3 => ?_)
      · replace hp := hp.1 c3
        replace he := he.trans (if_pos c3)
        exact kont2 _ _ _ he _ _ hP hD hS _ (lv_sub hl [2] rfl)
      · replace hp := hp.2 c3
        replace he := he.trans (if_neg c3)
        refine lv_iload_n hx hb dX1_follow_17 rfl (lv_at hl 1 rfl) ?_
        refine lv_if_eq (tgt := 37) hx hb dX1_follow_18 (by decide) (fun c4 => ?_) (fun c4 => ?_)
        · replace hp := hp.1 c4
          replace he := he.trans (if_pos c4)
          exact kont2 _ _ _ he _ _ hP hD hS _ (lv_sub hl [2] rfl)
        · replace hp := hp.2 c4
          replace he := he.trans (if_neg c4)
          refine lv_aload_n hx hb dX1_follow_21 rfl (lv_at hl 3 rfl) ?_
          refine lv_iload_n hx hb dX1_follow_22 rfl (lv_at hl 1 rfl) ?_
          have hq5 := hp.1
          replace hp := hp.2
          refine k_calli (S := Unit) (wc := (W_A cI k0 kl)) (wr := ([] : va_W)) (w1 := fun u => (W_A cI k0 kl)) (fun u => (W_A cI k0 kl)) hP hK hD hN hS hA [0] [] rfl rfl (by decide) (by decide) (by decide) [0] (by decide) (fun _ => rfl) (fun hg => va_runS (As := [.ref k0, .int v10_3]) (rest := []) ⟨hx, hb, hml, hown, hts⟩ (c_X1_step l D cI k0 kl _ v10_3 hq5) (va_cwS 2 hts gX1_follow_X1_step rfl rfl rfl (by decide +kernel) ⟨Nat.le_of_ble_eq_true rfl, Nat.le_of_ble_eq_true rfl⟩) ⟨PW.blind, fun U hU hW => ⟨rfl, hg U hU hW⟩⟩ rfl rfl hl.1 rfl (lv_room (Nat.le_of_ble_eq_true rfl)) dX1_follow_23 ⟨Nat.le_of_ble_eq_true rfl, Nat.le_of_ble_eq_true rfl⟩) (fun r5 u H locs hw hP hD hS => ?_)
          subst hw
          refine lv_istore_n (lv' := [(3, .int (f_X1_step kl v10_3)), (4, .int v10_4), (2, .int v10_2), (0, .ref k0)]) hx hb dX1_follow_26 rfl hl (by decide) rfl (fun ls hl => ?_)
          refine lv_iload_n hx hb dX1_follow_27 rfl (lv_at hl 2 rfl) ?_
          refine lv_iload_n hx hb dX1_follow_28 rfl (lv_at hl 0 rfl) ?_
          refine lv_ior hx hb dX1_follow_29 ?_
          refine lv_istore_n (lv' := [(2, .int (v10_2 ||| (f_X1_step kl v10_3))), (3, .int (f_X1_step kl v10_3)), (4, .int v10_4), (0, .ref k0)]) hx hb dX1_follow_30 rfl hl (by decide) rfl (fun ls hl => ?_)
          refine lv_iinc (v := (v10_4 + 1)) (lv' := [(4, .int (v10_4 + 1)), (2, .int (v10_2 ||| (f_X1_step kl v10_3))), (3, .int (f_X1_step kl v10_3)), (0, .ref k0)]) hx hb dX1_follow_31 hl (k := 2) rfl rfl (by decide) rfl (fun ls hl => ?_)
          refine lv_goto (tgt := 10) hx hb dX1_follow_34 (by decide) ?_
          exact ih _ _ _ hp he _ _ hP hD hS _ (lv_sub hl [0, 2, 1, 3] rfl)
  exact loop2 15 (0 : Int32) (f_X4_only a1) (0 : Int32) hpL2 hL2 _ _ hP hD hS _ (lv_sub hl [0, 1, 2, 3] rfl)
abbrev rm_X1_followAll : Room := { frames := 4, cells := 0, slots := 0, locals := 88 }
abbrev Q_X1_followAll (D : va_G) (cI : ClassId) (g0 g1 g2 g3 g4 : Nat) (gn : AA) (gu : AA) (gb : AA) (ga : AA) (A : Nat → Prop) : Array Value → State → Outcome → State → Prop := va_Qv (S := AA × AA) (fun u => f_X1_followAll gn gu gb ga = u) (fun u t => QW D [(cI, .int)] A (W_X1 cI g0 g1 g2 g3 g4 gn gu u.1 u.2) t) A
set_option maxHeartbeats 4000000 in
set_option maxRecDepth 100000 in
theorem c_X1_followAll (l : Launch)  (D : va_G) (cI : ClassId) (g0 g1 g2 g3 g4 : Nat) (gn : AA) (gu : AA) (gb : AA) (ga : AA) (sz : Nat) (hp : p_X1_followAll gn gu gb ga) : Met l yX1_followAll wsX1_followAll rm_X1_followAll (va_Pc [.ref g0] (PW D [(cI, .int)] sz (W_X1 cI g0 g1 g2 g3 g4 gn gu gb ga))) (Q_X1_followAll D cI g0 g1 g2 g3 g4 gn gu gb ga (va_A (W_X1 cI g0 g1 g2 g3 g4 gn gu gb ga) sz)) 0 0 (va_A (W_X1 cI g0 g1 g2 g3 g4 gn gu gb ga) sz) := by
  refine Met.ofW (cc := cX1_followAll) (maxL := 2) (ret := none) (by decide) rfl ?_
  intro p e s m args below meth c s₁ B hml hv
  obtain ⟨rfl, hsz, hP, hK, hD0, hN⟩ := hv
  have hx := B.exec
  have hb := B.bytes
  have hr := B.returns
  have hts := atoms_spec (ws := wsX1_followAll) B.pre
  have hown : s.vm.findClass RX1 = some m.cls := findClass_of_methodNamed B.named
  have hlocks := B.notSynchronized
  subst hsz
  have hD := hD0.self (sz := s.heap.size)
  generalize hAe : va_A (W_X1 cI g0 g1 g2 g3 g4 gn gu gb ga) s.heap.size = A at hD ⊢
  have hA : ∀ q : Nat, s.heap.size ≤ q → A q := fun q h => by rw [← hAe]; exact Or.inr h
  have hS : va_S A s.heap s.heap [] := va_S.rf
  have hl := lv_entry ([.ref g0]) (n := 2) (Nat.le_of_ble_eq_true rfl)
  rw [lg_entry_eq]
  generalize (lg_sl ([.ref g0]) ++ List.replicate (2 - (lg_sl ([.ref g0])).length) Slot.unset).toArray = ls at hl ⊢
  have hl : lv_has ls 2 [(0, .ref g0)] := hl
  have he := f_X1_followAll.eq_1 gn gu gb ga
  replace hp := Eq.mp (p_X1_followAll.eq_1 ..) hp
  refine lv_iconst (v := 0) hx hb dX1_followAll_0 (by decide) ?_
  refine lv_istore_n (lv' := [(1, .int 0), (0, .ref g0)]) hx hb dX1_followAll_1 rfl hl (by decide) rfl (fun ls hl => ?_)
  obtain ⟨⟨r1_v2_1, r1_gb_2, r1_ga_2⟩, hL1⟩ : ∃ z, z = f_X1_followAll_L2 gn gu 15 (0 : Int32) gb ga := ⟨_, rfl⟩
  rw [← hL1] at he
  try dsimp only at he
  have hpL1 := hp.1
  replace hp := hp.2 _ _ _ hL1.symm
  have kont1 : ∀ (x1_v2_1 : Int32) (x1_gb_2 : AA) (x1_ga_2 : AA), (r1_v2_1, r1_gb_2, r1_ga_2) = (x1_v2_1, x1_gb_2, x1_ga_2) → ∀ (H : Heap) (locs : List Loc), va_P D vwCl (W_X1 cI g0 g1 g2 g3 g4 gn gu x1_gb_2 x1_ga_2) H → va_D A (W_X1 cI g0 g1 g2 g3 g4 gn gu x1_gb_2 x1_ga_2) → va_S A s.heap H locs → ∀ ls : Array Slot, lv_has ls 2 [] → W p l e (headSpec wsX1_followAll rm_X1_followAll).room s m ([.ref g0] : List Value).toArray below meth c H locs 0 0 (MQ below (Q_X1_followAll D cI g0 g1 g2 g3 g4 gn gu gb ga A) ([.ref g0] : List Value).toArray s 0 0 A) (F0 m 42 ls []) := by
    intro x1_v2_1 x1_gb_2 x1_ga_2 hxe H locs hP hD hS ls hl
    simp only [Prod.mk.injEq] at hxe
    obtain ⟨rfl, rfl, rfl⟩ := hxe
    exact W.vret hx hb hr (fun t ht hW => ⟨⟨(r1_gb_2, r1_ga_2), rfl, he, by rw [ht]; exact hP, va_K.moved hW.alike hK, hD⟩, hS.F ht⟩) hS.2.2 dX1_followAll_42
  have loop1 : ∀ (n : Nat) (v2_1 : Int32) (gb_2 : AA) (ga_2 : AA), p_X1_followAll_L2 gn gu n v2_1 gb_2 ga_2 → (r1_v2_1, r1_gb_2, r1_ga_2) = f_X1_followAll_L2 gn gu n v2_1 gb_2 ga_2 → ∀ (H : Heap) (locs : List Loc), va_P D vwCl (W_X1 cI g0 g1 g2 g3 g4 gn gu gb_2 ga_2) H → va_D A (W_X1 cI g0 g1 g2 g3 g4 gn gu gb_2 ga_2) → va_S A s.heap H locs → ∀ ls : Array Slot, lv_has ls 2 [(1, .int v2_1), (0, .ref g0)] → W p l e (headSpec wsX1_followAll rm_X1_followAll).room s m ([.ref g0] : List Value).toArray below meth c H locs 0 0 (MQ below (Q_X1_followAll D cI g0 g1 g2 g3 g4 gn gu gb ga A) ([.ref g0] : List Value).toArray s 0 0 A) (F0 m 2 ls []) := by
    intro n
    induction n with
    | zero => exact fun _ _ _ hp => hp.elim
    | succ n ih =>
      intro v2_1 gb_2 ga_2 hp he H locs hP hD hS ls hl
      replace hp := Eq.mp (p_X1_followAll_L2.eq_2 ..) hp
      replace he := he.trans (f_X1_followAll_L2.eq_2 ..)
      refine lv_iload_n hx hb dX1_followAll_2 rfl (lv_at hl 0 rfl) ?_
      refine lv_bipush (v := 14) hx hb dX1_followAll_3 (by decide) ?_
      refine lv_icmp_ge (tgt := 42) hx hb dX1_followAll_5 (by decide) (fun c2 => ?_) (fun c2 => ?_)
      · replace hp := hp.1 c2
        replace he := he.trans (if_pos c2)
        exact kont1 _ _ _ he _ _ hP hD hS _ (lv_sub hl [] rfl)
      · replace hp := hp.2 c2
        replace he := he.trans (if_neg c2)
        refine lv_aload_n hx hb dX1_followAll_8 rfl (lv_at hl 1 rfl) ?_
        refine va_get (D := D) (ci := 1) (v := .ref g3) (C := RX1) (T := TX1) (N := 4) hx hb hts (by decide +kernel) hown hK hP 0 rfl rfl 2 (by decide) (hts (.fieldLink RX1 18 "Alarmgrove$Graph" "below" "[I") (by decide +kernel)) (fun _ h9 => h9) rfl dX1_followAll_9 ?_
        refine lv_iload_n hx hb dX1_followAll_12 rfl (lv_at hl 0 rfl) ?_
        refine lv_aload_n hx hb dX1_followAll_13 rfl (lv_at hl 1 rfl) ?_
        refine va_get (D := D) (ci := 1) (v := .ref g1) (C := RX1) (T := TX1) (N := 4) hx hb hts (by decide +kernel) hown hK hP 0 rfl rfl 0 (by decide) (hts (.fieldLink RX1 9 "Alarmgrove$Graph" "needed" "[I") (by decide +kernel)) (fun _ h9 => h9) rfl dX1_followAll_14 ?_
        refine lv_iload_n hx hb dX1_followAll_17 rfl (lv_at hl 0 rfl) ?_
        have hq3 := hp.1
        replace hp := hp.2
        refine k_calli (S := Unit) (wc := (W_A cI g1 gn)) (wr := ([(g0, .inr (1, [.ref g1, .ref g2, .ref g3, .ref g4]))] ++ (W_A cI g2 gu) ++ (W_A cI g3 gb_2) ++ (W_A cI g4 ga_2))) (w1 := fun u => (W_A cI g1 gn)) (fun u => (W_X1 cI g0 g1 g2 g3 g4 gn gu gb_2 ga_2)) hP hK hD hN hS hA [1] [0, 2, 3, 4] rfl rfl (by decide) (by decide) (by decide) [0, 4, 1, 2, 3] (by decide) (fun _ => rfl) (fun hg => va_runS (As := [.ref g1, .int v2_1]) (rest := [.int v2_1, .ref g3]) ⟨hx, hb, hml, hown, hts⟩ (c_X1_follow l D cI g1 gn _ v2_1 hq3) (va_cwS 2 hts gX1_followAll_X1_follow rfl rfl rfl (by decide +kernel) ⟨Nat.le_of_ble_eq_true rfl, Nat.le_of_ble_eq_true rfl⟩) ⟨PW.blind, fun U hU hW => ⟨rfl, hg U hU hW⟩⟩ rfl rfl hl.1 rfl (lv_room (Nat.le_of_ble_eq_true rfl)) dX1_followAll_18 ⟨Nat.le_of_ble_eq_true rfl, Nat.le_of_ble_eq_true rfl⟩) (fun r3 u H locs hw hP hD hS => ?_)
        subst hw
        have h4 := hp.1
        replace hp := hp.2
        refine va_iast hx hb hK hP hD hS 3 0 rfl rfl h4 dX1_followAll_21 (fun H locs hP hD hS => ?_)
        have hP : va_P D vwCl (W_X1 cI g0 g1 g2 g3 g4 gn gu (upd gb_2 (v2_1).toNatClampNeg (f_X1_follow gn v2_1)) ga_2) H := hP
        have hD : va_D A (W_X1 cI g0 g1 g2 g3 g4 gn gu (upd gb_2 (v2_1).toNatClampNeg (f_X1_follow gn v2_1)) ga_2) := hD
        refine lv_aload_n hx hb dX1_followAll_22 rfl (lv_at hl 1 rfl) ?_
        refine va_get (D := D) (ci := 1) (v := .ref g4) (C := RX1) (T := TX1) (N := 4) hx hb hts (by decide +kernel) hown hK hP 0 rfl rfl 3 (by decide) (hts (.fieldLink RX1 21 "Alarmgrove$Graph" "above" "[I") (by decide +kernel)) (fun _ h9 => h9) rfl dX1_followAll_23 ?_
        refine lv_iload_n hx hb dX1_followAll_26 rfl (lv_at hl 0 rfl) ?_
        refine lv_aload_n hx hb dX1_followAll_27 rfl (lv_at hl 1 rfl) ?_
        refine va_get (D := D) (ci := 1) (v := .ref g2) (C := RX1) (T := TX1) (N := 4) hx hb hts (by decide +kernel) hown hK hP 0 rfl rfl 1 (by decide) (hts (.fieldLink RX1 15 "Alarmgrove$Graph" "users" "[I") (by decide +kernel)) (fun _ h9 => h9) rfl dX1_followAll_28 ?_
        refine lv_iload_n hx hb dX1_followAll_31 rfl (lv_at hl 0 rfl) ?_
        have hq5 := hp.1
        replace hp := hp.2
        refine k_calli (S := Unit) (wc := (W_A cI g2 gu)) (wr := ([(g0, .inr (1, [.ref g1, .ref g2, .ref g3, .ref g4]))] ++ (W_A cI g1 gn) ++ (W_A cI g3 (upd gb_2 (v2_1).toNatClampNeg (f_X1_follow gn v2_1))) ++ (W_A cI g4 ga_2))) (w1 := fun u => (W_A cI g2 gu)) (fun u => (W_X1 cI g0 g1 g2 g3 g4 gn gu (upd gb_2 (v2_1).toNatClampNeg (f_X1_follow gn v2_1)) ga_2)) hP hK hD hN hS hA [2] [0, 1, 3, 4] rfl rfl (by decide) (by decide) (by decide) [0, 1, 4, 2, 3] (by decide) (fun _ => rfl) (fun hg => va_runS (As := [.ref g2, .int v2_1]) (rest := [.int v2_1, .ref g4]) ⟨hx, hb, hml, hown, hts⟩ (c_X1_follow l D cI g2 gu _ v2_1 hq5) (va_cwS 2 hts gX1_followAll_X1_follow rfl rfl rfl (by decide +kernel) ⟨Nat.le_of_ble_eq_true rfl, Nat.le_of_ble_eq_true rfl⟩) ⟨PW.blind, fun U hU hW => ⟨rfl, hg U hU hW⟩⟩ rfl rfl hl.1 rfl (lv_room (Nat.le_of_ble_eq_true rfl)) dX1_followAll_32 ⟨Nat.le_of_ble_eq_true rfl, Nat.le_of_ble_eq_true rfl⟩) (fun r5 u H locs hw hP hD hS => ?_)
        subst hw
        have h6 := hp.1
        replace hp := hp.2
        refine va_iast hx hb hK hP hD hS 4 0 rfl rfl h6 dX1_followAll_35 (fun H locs hP hD hS => ?_)
        have hP : va_P D vwCl (W_X1 cI g0 g1 g2 g3 g4 gn gu (upd gb_2 (v2_1).toNatClampNeg (f_X1_follow gn v2_1)) (upd ga_2 (v2_1).toNatClampNeg (f_X1_follow gu v2_1))) H := hP
        have hD : va_D A (W_X1 cI g0 g1 g2 g3 g4 gn gu (upd gb_2 (v2_1).toNatClampNeg (f_X1_follow gn v2_1)) (upd ga_2 (v2_1).toNatClampNeg (f_X1_follow gu v2_1))) := hD
        refine lv_iinc (v := (v2_1 + 1)) (lv' := [(1, .int (v2_1 + 1)), (0, .ref g0)]) hx hb dX1_followAll_36 hl (k := 0) rfl rfl (by decide) rfl (fun ls hl => ?_)
        refine lv_goto (tgt := 2) hx hb dX1_followAll_39 (by decide) ?_
        exact ih _ _ _ hp he _ _ hP hD hS _ (lv_sub hl [0, 1] rfl)
  exact loop1 15 (0 : Int32) gb ga hpL1 hL1 _ _ hP hD hS _ (lv_sub hl [0, 1] rfl)
abbrev rm_X1_needed : Room := { frames := 0, cells := 0, slots := 0, locals := 0 }
abbrev Q_X1_needed (D : va_G) (cI : ClassId) (g0 g1 g2 g3 g4 : Nat) (gn : AA) (gu : AA) (gb : AA) (ga : AA) (a1 : Int32) (A : Nat → Prop) : Array Value → State → Outcome → State → Prop := va_Qi (S := Unit) (fun r u => f_X1_needed gn a1 = r) (fun u t => QW D [(cI, .int)] A (W_X1 cI g0 g1 g2 g3 g4 gn gu gb ga) t) A
set_option maxHeartbeats 4000000 in
set_option maxRecDepth 100000 in
theorem c_X1_needed (l : Launch)  (D : va_G) (cI : ClassId) (g0 g1 g2 g3 g4 : Nat) (gn : AA) (gu : AA) (gb : AA) (ga : AA) (sz : Nat) (a1 : Int32) (hp : p_X1_needed a1) : Met l yX1_needed wsX1_needed rm_X1_needed (va_Pc [.ref g0, .int a1] (PW D [(cI, .int)] sz (W_X1 cI g0 g1 g2 g3 g4 gn gu gb ga))) (Q_X1_needed D cI g0 g1 g2 g3 g4 gn gu gb ga a1 (va_A (W_X1 cI g0 g1 g2 g3 g4 gn gu gb ga) sz)) 0 0 (va_A (W_X1 cI g0 g1 g2 g3 g4 gn gu gb ga) sz) := by
  refine Met.ofW (cc := cX1_needed) (maxL := 2) (ret := (some .int)) (by decide) rfl ?_
  intro p e s m args below meth c s₁ B hml hv
  obtain ⟨rfl, hsz, hP, hK, hD0, hN⟩ := hv
  have hx := B.exec
  have hb := B.bytes
  have hr := B.returns
  have hts := atoms_spec (ws := wsX1_needed) B.pre
  have hown : s.vm.findClass RX1 = some m.cls := findClass_of_methodNamed B.named
  have hlocks := B.notSynchronized
  subst hsz
  have hD := hD0.self (sz := s.heap.size)
  generalize hAe : va_A (W_X1 cI g0 g1 g2 g3 g4 gn gu gb ga) s.heap.size = A at hD ⊢
  have hA : ∀ q : Nat, s.heap.size ≤ q → A q := fun q h => by rw [← hAe]; exact Or.inr h
  have hS : va_S A s.heap s.heap [] := va_S.rf
  have hl := lv_entry ([.ref g0, .int a1]) (n := 2) (Nat.le_of_ble_eq_true rfl)
  rw [lg_entry_eq]
  generalize (lg_sl ([.ref g0, .int a1]) ++ List.replicate (2 - (lg_sl ([.ref g0, .int a1])).length) Slot.unset).toArray = ls at hl ⊢
  have hl : lv_has ls 2 [(0, .ref g0), (1, .int a1)] := hl
  have he := f_X1_needed.eq_1 gn a1
  replace hp := Eq.mp (p_X1_needed.eq_1 ..) hp
  refine lv_aload_n hx hb dX1_needed_0 rfl (lv_at hl 0 rfl) ?_
  refine va_get (D := D) (ci := 1) (v := .ref g1) (C := RX1) (T := TX1) (N := 4) hx hb hts (by decide +kernel) hown hK hP 0 rfl rfl 0 (by decide) (hts (.fieldLink RX1 9 "Alarmgrove$Graph" "needed" "[I") (by decide +kernel)) (fun _ h9 => h9) rfl dX1_needed_1 ?_
  refine lv_iload_n hx hb dX1_needed_4 rfl (lv_at hl 1 rfl) ?_
  have h1 := hp.1
  replace hp := hp.2
  refine va_iald hx hb hK hP 1 0 rfl rfl h1 dX1_needed_5 ?_
  exact W.iret (v := (gn (a1).toNatClampNeg)) hx hb hr (fun t ht hW => ⟨⟨(gn (a1).toNatClampNeg), (), rfl, he, by rw [ht]; exact hP, va_K.moved hW.alike hK, hD⟩, hS.F ht⟩) hS.2.2 dX1_needed_6
abbrev rm_X1_users : Room := { frames := 0, cells := 0, slots := 0, locals := 0 }
abbrev Q_X1_users (D : va_G) (cI : ClassId) (g0 g1 g2 g3 g4 : Nat) (gn : AA) (gu : AA) (gb : AA) (ga : AA) (a1 : Int32) (A : Nat → Prop) : Array Value → State → Outcome → State → Prop := va_Qi (S := Unit) (fun r u => f_X1_users gu a1 = r) (fun u t => QW D [(cI, .int)] A (W_X1 cI g0 g1 g2 g3 g4 gn gu gb ga) t) A
set_option maxHeartbeats 4000000 in
set_option maxRecDepth 100000 in
theorem c_X1_users (l : Launch)  (D : va_G) (cI : ClassId) (g0 g1 g2 g3 g4 : Nat) (gn : AA) (gu : AA) (gb : AA) (ga : AA) (sz : Nat) (a1 : Int32) (hp : p_X1_users a1) : Met l yX1_users wsX1_users rm_X1_users (va_Pc [.ref g0, .int a1] (PW D [(cI, .int)] sz (W_X1 cI g0 g1 g2 g3 g4 gn gu gb ga))) (Q_X1_users D cI g0 g1 g2 g3 g4 gn gu gb ga a1 (va_A (W_X1 cI g0 g1 g2 g3 g4 gn gu gb ga) sz)) 0 0 (va_A (W_X1 cI g0 g1 g2 g3 g4 gn gu gb ga) sz) := by
  refine Met.ofW (cc := cX1_users) (maxL := 2) (ret := (some .int)) (by decide) rfl ?_
  intro p e s m args below meth c s₁ B hml hv
  obtain ⟨rfl, hsz, hP, hK, hD0, hN⟩ := hv
  have hx := B.exec
  have hb := B.bytes
  have hr := B.returns
  have hts := atoms_spec (ws := wsX1_users) B.pre
  have hown : s.vm.findClass RX1 = some m.cls := findClass_of_methodNamed B.named
  have hlocks := B.notSynchronized
  subst hsz
  have hD := hD0.self (sz := s.heap.size)
  generalize hAe : va_A (W_X1 cI g0 g1 g2 g3 g4 gn gu gb ga) s.heap.size = A at hD ⊢
  have hA : ∀ q : Nat, s.heap.size ≤ q → A q := fun q h => by rw [← hAe]; exact Or.inr h
  have hS : va_S A s.heap s.heap [] := va_S.rf
  have hl := lv_entry ([.ref g0, .int a1]) (n := 2) (Nat.le_of_ble_eq_true rfl)
  rw [lg_entry_eq]
  generalize (lg_sl ([.ref g0, .int a1]) ++ List.replicate (2 - (lg_sl ([.ref g0, .int a1])).length) Slot.unset).toArray = ls at hl ⊢
  have hl : lv_has ls 2 [(0, .ref g0), (1, .int a1)] := hl
  have he := f_X1_users.eq_1 gu a1
  replace hp := Eq.mp (p_X1_users.eq_1 ..) hp
  refine lv_aload_n hx hb dX1_users_0 rfl (lv_at hl 0 rfl) ?_
  refine va_get (D := D) (ci := 1) (v := .ref g2) (C := RX1) (T := TX1) (N := 4) hx hb hts (by decide +kernel) hown hK hP 0 rfl rfl 1 (by decide) (hts (.fieldLink RX1 15 "Alarmgrove$Graph" "users" "[I") (by decide +kernel)) (fun _ h9 => h9) rfl dX1_users_1 ?_
  refine lv_iload_n hx hb dX1_users_4 rfl (lv_at hl 1 rfl) ?_
  have h1 := hp.1
  replace hp := hp.2
  refine va_iald hx hb hK hP 2 0 rfl rfl h1 dX1_users_5 ?_
  exact W.iret (v := (gu (a1).toNatClampNeg)) hx hb hr (fun t ht hW => ⟨⟨(gu (a1).toNatClampNeg), (), rfl, he, by rw [ht]; exact hP, va_K.moved hW.alike hK, hD⟩, hS.F ht⟩) hS.2.2 dX1_users_6
abbrev rm_X1_below : Room := { frames := 0, cells := 0, slots := 0, locals := 0 }
abbrev Q_X1_below (D : va_G) (cI : ClassId) (g0 g1 g2 g3 g4 : Nat) (gn : AA) (gu : AA) (gb : AA) (ga : AA) (a1 : Int32) (A : Nat → Prop) : Array Value → State → Outcome → State → Prop := va_Qi (S := Unit) (fun r u => f_X1_below gb a1 = r) (fun u t => QW D [(cI, .int)] A (W_X1 cI g0 g1 g2 g3 g4 gn gu gb ga) t) A
set_option maxHeartbeats 4000000 in
set_option maxRecDepth 100000 in
theorem c_X1_below (l : Launch)  (D : va_G) (cI : ClassId) (g0 g1 g2 g3 g4 : Nat) (gn : AA) (gu : AA) (gb : AA) (ga : AA) (sz : Nat) (a1 : Int32) (hp : p_X1_below a1) : Met l yX1_below wsX1_below rm_X1_below (va_Pc [.ref g0, .int a1] (PW D [(cI, .int)] sz (W_X1 cI g0 g1 g2 g3 g4 gn gu gb ga))) (Q_X1_below D cI g0 g1 g2 g3 g4 gn gu gb ga a1 (va_A (W_X1 cI g0 g1 g2 g3 g4 gn gu gb ga) sz)) 0 0 (va_A (W_X1 cI g0 g1 g2 g3 g4 gn gu gb ga) sz) := by
  refine Met.ofW (cc := cX1_below) (maxL := 2) (ret := (some .int)) (by decide) rfl ?_
  intro p e s m args below meth c s₁ B hml hv
  obtain ⟨rfl, hsz, hP, hK, hD0, hN⟩ := hv
  have hx := B.exec
  have hb := B.bytes
  have hr := B.returns
  have hts := atoms_spec (ws := wsX1_below) B.pre
  have hown : s.vm.findClass RX1 = some m.cls := findClass_of_methodNamed B.named
  have hlocks := B.notSynchronized
  subst hsz
  have hD := hD0.self (sz := s.heap.size)
  generalize hAe : va_A (W_X1 cI g0 g1 g2 g3 g4 gn gu gb ga) s.heap.size = A at hD ⊢
  have hA : ∀ q : Nat, s.heap.size ≤ q → A q := fun q h => by rw [← hAe]; exact Or.inr h
  have hS : va_S A s.heap s.heap [] := va_S.rf
  have hl := lv_entry ([.ref g0, .int a1]) (n := 2) (Nat.le_of_ble_eq_true rfl)
  rw [lg_entry_eq]
  generalize (lg_sl ([.ref g0, .int a1]) ++ List.replicate (2 - (lg_sl ([.ref g0, .int a1])).length) Slot.unset).toArray = ls at hl ⊢
  have hl : lv_has ls 2 [(0, .ref g0), (1, .int a1)] := hl
  have he := f_X1_below.eq_1 gb a1
  replace hp := Eq.mp (p_X1_below.eq_1 ..) hp
  refine lv_aload_n hx hb dX1_below_0 rfl (lv_at hl 0 rfl) ?_
  refine va_get (D := D) (ci := 1) (v := .ref g3) (C := RX1) (T := TX1) (N := 4) hx hb hts (by decide +kernel) hown hK hP 0 rfl rfl 2 (by decide) (hts (.fieldLink RX1 18 "Alarmgrove$Graph" "below" "[I") (by decide +kernel)) (fun _ h9 => h9) rfl dX1_below_1 ?_
  refine lv_iload_n hx hb dX1_below_4 rfl (lv_at hl 1 rfl) ?_
  have h1 := hp.1
  replace hp := hp.2
  refine va_iald hx hb hK hP 3 0 rfl rfl h1 dX1_below_5 ?_
  exact W.iret (v := (gb (a1).toNatClampNeg)) hx hb hr (fun t ht hW => ⟨⟨(gb (a1).toNatClampNeg), (), rfl, he, by rw [ht]; exact hP, va_K.moved hW.alike hK, hD⟩, hS.F ht⟩) hS.2.2 dX1_below_6
abbrev rm_X1_above : Room := { frames := 0, cells := 0, slots := 0, locals := 0 }
abbrev Q_X1_above (D : va_G) (cI : ClassId) (g0 g1 g2 g3 g4 : Nat) (gn : AA) (gu : AA) (gb : AA) (ga : AA) (a1 : Int32) (A : Nat → Prop) : Array Value → State → Outcome → State → Prop := va_Qi (S := Unit) (fun r u => f_X1_above ga a1 = r) (fun u t => QW D [(cI, .int)] A (W_X1 cI g0 g1 g2 g3 g4 gn gu gb ga) t) A
set_option maxHeartbeats 4000000 in
set_option maxRecDepth 100000 in
theorem c_X1_above (l : Launch)  (D : va_G) (cI : ClassId) (g0 g1 g2 g3 g4 : Nat) (gn : AA) (gu : AA) (gb : AA) (ga : AA) (sz : Nat) (a1 : Int32) (hp : p_X1_above a1) : Met l yX1_above wsX1_above rm_X1_above (va_Pc [.ref g0, .int a1] (PW D [(cI, .int)] sz (W_X1 cI g0 g1 g2 g3 g4 gn gu gb ga))) (Q_X1_above D cI g0 g1 g2 g3 g4 gn gu gb ga a1 (va_A (W_X1 cI g0 g1 g2 g3 g4 gn gu gb ga) sz)) 0 0 (va_A (W_X1 cI g0 g1 g2 g3 g4 gn gu gb ga) sz) := by
  refine Met.ofW (cc := cX1_above) (maxL := 2) (ret := (some .int)) (by decide) rfl ?_
  intro p e s m args below meth c s₁ B hml hv
  obtain ⟨rfl, hsz, hP, hK, hD0, hN⟩ := hv
  have hx := B.exec
  have hb := B.bytes
  have hr := B.returns
  have hts := atoms_spec (ws := wsX1_above) B.pre
  have hown : s.vm.findClass RX1 = some m.cls := findClass_of_methodNamed B.named
  have hlocks := B.notSynchronized
  subst hsz
  have hD := hD0.self (sz := s.heap.size)
  generalize hAe : va_A (W_X1 cI g0 g1 g2 g3 g4 gn gu gb ga) s.heap.size = A at hD ⊢
  have hA : ∀ q : Nat, s.heap.size ≤ q → A q := fun q h => by rw [← hAe]; exact Or.inr h
  have hS : va_S A s.heap s.heap [] := va_S.rf
  have hl := lv_entry ([.ref g0, .int a1]) (n := 2) (Nat.le_of_ble_eq_true rfl)
  rw [lg_entry_eq]
  generalize (lg_sl ([.ref g0, .int a1]) ++ List.replicate (2 - (lg_sl ([.ref g0, .int a1])).length) Slot.unset).toArray = ls at hl ⊢
  have hl : lv_has ls 2 [(0, .ref g0), (1, .int a1)] := hl
  have he := f_X1_above.eq_1 ga a1
  replace hp := Eq.mp (p_X1_above.eq_1 ..) hp
  refine lv_aload_n hx hb dX1_above_0 rfl (lv_at hl 0 rfl) ?_
  refine va_get (D := D) (ci := 1) (v := .ref g4) (C := RX1) (T := TX1) (N := 4) hx hb hts (by decide +kernel) hown hK hP 0 rfl rfl 3 (by decide) (hts (.fieldLink RX1 21 "Alarmgrove$Graph" "above" "[I") (by decide +kernel)) (fun _ h9 => h9) rfl dX1_above_1 ?_
  refine lv_iload_n hx hb dX1_above_4 rfl (lv_at hl 1 rfl) ?_
  have h1 := hp.1
  replace hp := hp.2
  refine va_iald hx hb hK hP 4 0 rfl rfl h1 dX1_above_5 ?_
  exact W.iret (v := (ga (a1).toNatClampNeg)) hx hb hr (fun t ht hW => ⟨⟨(ga (a1).toNatClampNeg), (), rfl, he, by rw [ht]; exact hP, va_K.moved hW.alike hK, hD⟩, hS.F ht⟩) hS.2.2 dX1_above_6
abbrev rm_X1_explainersOf : Room := { frames := 1, cells := 0, slots := 0, locals := 20 }
abbrev Q_X1_explainersOf (D : va_G) (cI : ClassId) (g0 g1 g2 g3 g4 : Nat) (gn : AA) (gu : AA) (gb : AA) (ga : AA) (a1 : Int32) (A : Nat → Prop) : Array Value → State → Outcome → State → Prop := va_Qi (S := Unit) (fun r u => f_X1_explainersOf gb a1 = r) (fun u t => QW D [(cI, .int)] A (W_X1 cI g0 g1 g2 g3 g4 gn gu gb ga) t) A
set_option maxHeartbeats 4000000 in
set_option maxRecDepth 100000 in
theorem c_X1_explainersOf (l : Launch)  (D : va_G) (cI : ClassId) (g0 g1 g2 g3 g4 : Nat) (gn : AA) (gu : AA) (gb : AA) (ga : AA) (sz : Nat) (a1 : Int32) (hp : p_X1_explainersOf a1) : Met l yX1_explainersOf wsX1_explainersOf rm_X1_explainersOf (va_Pc [.ref g0, .int a1] (PW D [(cI, .int)] sz (W_X1 cI g0 g1 g2 g3 g4 gn gu gb ga))) (Q_X1_explainersOf D cI g0 g1 g2 g3 g4 gn gu gb ga a1 (va_A (W_X1 cI g0 g1 g2 g3 g4 gn gu gb ga) sz)) 0 0 (va_A (W_X1 cI g0 g1 g2 g3 g4 gn gu gb ga) sz) := by
  refine Met.ofW (cc := cX1_explainersOf) (maxL := 2) (ret := (some .int)) (by decide) rfl ?_
  intro p e s m args below meth c s₁ B hml hv
  obtain ⟨rfl, hsz, hP, hK, hD0, hN⟩ := hv
  have hx := B.exec
  have hb := B.bytes
  have hr := B.returns
  have hts := atoms_spec (ws := wsX1_explainersOf) B.pre
  have hown : s.vm.findClass RX1 = some m.cls := findClass_of_methodNamed B.named
  have hlocks := B.notSynchronized
  subst hsz
  have hD := hD0.self (sz := s.heap.size)
  generalize hAe : va_A (W_X1 cI g0 g1 g2 g3 g4 gn gu gb ga) s.heap.size = A at hD ⊢
  have hA : ∀ q : Nat, s.heap.size ≤ q → A q := fun q h => by rw [← hAe]; exact Or.inr h
  have hS : va_S A s.heap s.heap [] := va_S.rf
  have hl := lv_entry ([.ref g0, .int a1]) (n := 2) (Nat.le_of_ble_eq_true rfl)
  rw [lg_entry_eq]
  generalize (lg_sl ([.ref g0, .int a1]) ++ List.replicate (2 - (lg_sl ([.ref g0, .int a1])).length) Slot.unset).toArray = ls at hl ⊢
  have hl : lv_has ls 2 [(0, .ref g0), (1, .int a1)] := hl
  have he := f_X1_explainersOf.eq_1 gb a1
  replace hp := Eq.mp (p_X1_explainersOf.eq_1 ..) hp
  refine lv_iload_n hx hb dX1_explainersOf_0 rfl (lv_at hl 1 rfl) ?_
  refine k_calli (S := Unit) (wc := ([] : va_W)) (wr := (W_X1 cI g0 g1 g2 g3 g4 gn gu gb ga)) (w1 := fun u => ([] : va_W)) (fun u => (W_X1 cI g0 g1 g2 g3 g4 gn gu gb ga)) hP hK hD hN hS hA [] [0, 1, 2, 3, 4] rfl rfl (by decide) (by decide) (by decide) [0, 1, 2, 3, 4] (by decide) (fun _ => rfl) (fun hg => va_runSN (As := [.int a1]) (rest := []) ⟨hx, hb, hml, hown, hts⟩ (c_X4_only l D cI _ a1) ⟨va_cnB 1 hts gX1_explainersOf_X4_only_n24 rfl rfl rfl (hN.at 5 rfl) (hts (.initialized RX4) (by decide +kernel)) (by decide +kernel) ⟨Nat.le_of_ble_eq_true rfl, Nat.le_of_ble_eq_true rfl⟩, hts (.static yX4_only) (by decide +kernel), trivial⟩ ⟨PW.blind, fun U hU hW => ⟨rfl, hg U hU hW⟩⟩ rfl rfl hl.1 rfl (lv_room (Nat.le_of_ble_eq_true rfl)) dX1_explainersOf_1 ⟨Nat.le_of_ble_eq_true rfl, Nat.le_of_ble_eq_true rfl⟩) (fun r1 u H locs hw hP hD hS => ?_)
  subst hw
  refine lv_aload_n hx hb dX1_explainersOf_4 rfl (lv_at hl 0 rfl) ?_
  refine va_get (D := D) (ci := 1) (v := .ref g3) (C := RX1) (T := TX1) (N := 4) hx hb hts (by decide +kernel) hown hK hP 0 rfl rfl 2 (by decide) (hts (.fieldLink RX1 18 "Alarmgrove$Graph" "below" "[I") (by decide +kernel)) (fun _ h9 => h9) rfl dX1_explainersOf_5 ?_
  refine lv_iload_n hx hb dX1_explainersOf_8 rfl (lv_at hl 1 rfl) ?_
  have h2 := hp.1
  replace hp := hp.2
  refine va_iald hx hb hK hP 3 0 rfl rfl h2 dX1_explainersOf_9 ?_
  refine lv_ior hx hb dX1_explainersOf_10 ?_
  exact W.iret (v := ((f_X4_only a1) ||| (gb (a1).toNatClampNeg))) hx hb hr (fun t ht hW => ⟨⟨((f_X4_only a1) ||| (gb (a1).toNatClampNeg)), (), rfl, he, by rw [ht]; exact hP, va_K.moved hW.alike hK, hD⟩, hS.F ht⟩) hS.2.2 dX1_explainersOf_11
abbrev rm_X1_explainedBy : Room := { frames := 1, cells := 0, slots := 0, locals := 20 }
abbrev Q_X1_explainedBy (D : va_G) (cI : ClassId) (g0 g1 g2 g3 g4 : Nat) (gn : AA) (gu : AA) (gb : AA) (ga : AA) (a1 : Int32) (A : Nat → Prop) : Array Value → State → Outcome → State → Prop := va_Qi (S := Unit) (fun r u => f_X1_explainedBy ga a1 = r) (fun u t => QW D [(cI, .int)] A (W_X1 cI g0 g1 g2 g3 g4 gn gu gb ga) t) A
set_option maxHeartbeats 4000000 in
set_option maxRecDepth 100000 in
theorem c_X1_explainedBy (l : Launch)  (D : va_G) (cI : ClassId) (g0 g1 g2 g3 g4 : Nat) (gn : AA) (gu : AA) (gb : AA) (ga : AA) (sz : Nat) (a1 : Int32) (hp : p_X1_explainedBy a1) : Met l yX1_explainedBy wsX1_explainedBy rm_X1_explainedBy (va_Pc [.ref g0, .int a1] (PW D [(cI, .int)] sz (W_X1 cI g0 g1 g2 g3 g4 gn gu gb ga))) (Q_X1_explainedBy D cI g0 g1 g2 g3 g4 gn gu gb ga a1 (va_A (W_X1 cI g0 g1 g2 g3 g4 gn gu gb ga) sz)) 0 0 (va_A (W_X1 cI g0 g1 g2 g3 g4 gn gu gb ga) sz) := by
  refine Met.ofW (cc := cX1_explainedBy) (maxL := 2) (ret := (some .int)) (by decide) rfl ?_
  intro p e s m args below meth c s₁ B hml hv
  obtain ⟨rfl, hsz, hP, hK, hD0, hN⟩ := hv
  have hx := B.exec
  have hb := B.bytes
  have hr := B.returns
  have hts := atoms_spec (ws := wsX1_explainedBy) B.pre
  have hown : s.vm.findClass RX1 = some m.cls := findClass_of_methodNamed B.named
  have hlocks := B.notSynchronized
  subst hsz
  have hD := hD0.self (sz := s.heap.size)
  generalize hAe : va_A (W_X1 cI g0 g1 g2 g3 g4 gn gu gb ga) s.heap.size = A at hD ⊢
  have hA : ∀ q : Nat, s.heap.size ≤ q → A q := fun q h => by rw [← hAe]; exact Or.inr h
  have hS : va_S A s.heap s.heap [] := va_S.rf
  have hl := lv_entry ([.ref g0, .int a1]) (n := 2) (Nat.le_of_ble_eq_true rfl)
  rw [lg_entry_eq]
  generalize (lg_sl ([.ref g0, .int a1]) ++ List.replicate (2 - (lg_sl ([.ref g0, .int a1])).length) Slot.unset).toArray = ls at hl ⊢
  have hl : lv_has ls 2 [(0, .ref g0), (1, .int a1)] := hl
  have he := f_X1_explainedBy.eq_1 ga a1
  replace hp := Eq.mp (p_X1_explainedBy.eq_1 ..) hp
  refine lv_iload_n hx hb dX1_explainedBy_0 rfl (lv_at hl 1 rfl) ?_
  refine k_calli (S := Unit) (wc := ([] : va_W)) (wr := (W_X1 cI g0 g1 g2 g3 g4 gn gu gb ga)) (w1 := fun u => ([] : va_W)) (fun u => (W_X1 cI g0 g1 g2 g3 g4 gn gu gb ga)) hP hK hD hN hS hA [] [0, 1, 2, 3, 4] rfl rfl (by decide) (by decide) (by decide) [0, 1, 2, 3, 4] (by decide) (fun _ => rfl) (fun hg => va_runSN (As := [.int a1]) (rest := []) ⟨hx, hb, hml, hown, hts⟩ (c_X4_only l D cI _ a1) ⟨va_cnB 1 hts gX1_explainedBy_X4_only_n24 rfl rfl rfl (hN.at 5 rfl) (hts (.initialized RX4) (by decide +kernel)) (by decide +kernel) ⟨Nat.le_of_ble_eq_true rfl, Nat.le_of_ble_eq_true rfl⟩, hts (.static yX4_only) (by decide +kernel), trivial⟩ ⟨PW.blind, fun U hU hW => ⟨rfl, hg U hU hW⟩⟩ rfl rfl hl.1 rfl (lv_room (Nat.le_of_ble_eq_true rfl)) dX1_explainedBy_1 ⟨Nat.le_of_ble_eq_true rfl, Nat.le_of_ble_eq_true rfl⟩) (fun r1 u H locs hw hP hD hS => ?_)
  subst hw
  refine lv_aload_n hx hb dX1_explainedBy_4 rfl (lv_at hl 0 rfl) ?_
  refine va_get (D := D) (ci := 1) (v := .ref g4) (C := RX1) (T := TX1) (N := 4) hx hb hts (by decide +kernel) hown hK hP 0 rfl rfl 3 (by decide) (hts (.fieldLink RX1 21 "Alarmgrove$Graph" "above" "[I") (by decide +kernel)) (fun _ h9 => h9) rfl dX1_explainedBy_5 ?_
  refine lv_iload_n hx hb dX1_explainedBy_8 rfl (lv_at hl 1 rfl) ?_
  have h2 := hp.1
  replace hp := hp.2
  refine va_iald hx hb hK hP 4 0 rfl rfl h2 dX1_explainedBy_9 ?_
  refine lv_ior hx hb dX1_explainedBy_10 ?_
  exact W.iret (v := ((f_X4_only a1) ||| (ga (a1).toNatClampNeg))) hx hb hr (fun t ht hW => ⟨⟨((f_X4_only a1) ||| (ga (a1).toNatClampNeg)), (), rfl, he, by rw [ht]; exact hP, va_K.moved hW.alike hK, hD⟩, hS.F ht⟩) hS.2.2 dX1_explainedBy_11
abbrev rm_X1_link : Room := { frames := 5, cells := 0, slots := 0, locals := 109 }
abbrev Q_X1_link (D : va_G) (cI : ClassId) (g0 g1 g2 g3 g4 : Nat) (gn : AA) (gu : AA) (gb : AA) (ga : AA) (a1 a2 : Int32) (A : Nat → Prop) : Array Value → State → Outcome → State → Prop := va_Qi (S := AA × AA × AA × AA) (fun r u => f_X1_link gn gu gb ga a1 a2 = (r, u) ∧ (r = 0 ∨ r = 1)) (fun u t => QW D [(cI, .int)] A (W_X1 cI g0 g1 g2 g3 g4 u.1 u.2.1 u.2.2.1 u.2.2.2) t) A
set_option maxHeartbeats 4000000 in
set_option maxRecDepth 100000 in
theorem c_X1_link (l : Launch)  (D : va_G) (cI : ClassId) (g0 g1 g2 g3 g4 : Nat) (gn : AA) (gu : AA) (gb : AA) (ga : AA) (sz : Nat) (a1 a2 : Int32) (hp : p_X1_link gn gu gb ga a1 a2) : Met l yX1_link wsX1_link rm_X1_link (va_Pc [.ref g0, .int a1, .int a2] (PW D [(cI, .int)] sz (W_X1 cI g0 g1 g2 g3 g4 gn gu gb ga))) (Q_X1_link D cI g0 g1 g2 g3 g4 gn gu gb ga a1 a2 (va_A (W_X1 cI g0 g1 g2 g3 g4 gn gu gb ga) sz)) 0 0 (va_A (W_X1 cI g0 g1 g2 g3 g4 gn gu gb ga) sz) := by
  refine Met.ofW (cc := cX1_link) (maxL := 3) (ret := (some .boolean)) (by decide) rfl ?_
  intro p e s m args below meth c s₁ B hml hv
  obtain ⟨rfl, hsz, hP, hK, hD0, hN⟩ := hv
  have hx := B.exec
  have hb := B.bytes
  have hr := B.returns
  have hts := atoms_spec (ws := wsX1_link) B.pre
  have hown : s.vm.findClass RX1 = some m.cls := findClass_of_methodNamed B.named
  have hlocks := B.notSynchronized
  subst hsz
  have hD := hD0.self (sz := s.heap.size)
  generalize hAe : va_A (W_X1 cI g0 g1 g2 g3 g4 gn gu gb ga) s.heap.size = A at hD ⊢
  have hA : ∀ q : Nat, s.heap.size ≤ q → A q := fun q h => by rw [← hAe]; exact Or.inr h
  have hS : va_S A s.heap s.heap [] := va_S.rf
  have hl := lv_entry ([.ref g0, .int a1, .int a2]) (n := 3) (Nat.le_of_ble_eq_true rfl)
  rw [lg_entry_eq]
  generalize (lg_sl ([.ref g0, .int a1, .int a2]) ++ List.replicate (3 - (lg_sl ([.ref g0, .int a1, .int a2])).length) Slot.unset).toArray = ls at hl ⊢
  have hl : lv_has ls 3 [(0, .ref g0), (1, .int a1), (2, .int a2)] := hl
  have he := f_X1_link.eq_1 gn gu gb ga a1 a2
  replace hp := Eq.mp (p_X1_link.eq_1 ..) hp
  refine lv_aload_n hx hb dX1_link_0 rfl (lv_at hl 0 rfl) ?_
  refine va_get (D := D) (ci := 1) (v := .ref g1) (C := RX1) (T := TX1) (N := 4) hx hb hts (by decide +kernel) hown hK hP 0 rfl rfl 0 (by decide) (hts (.fieldLink RX1 9 "Alarmgrove$Graph" "needed" "[I") (by decide +kernel)) (fun _ h9 => h9) rfl dX1_link_1 ?_
  refine lv_iload_n hx hb dX1_link_4 rfl (lv_at hl 1 rfl) ?_
  have h1 := hp.1
  replace hp := hp.2
  refine va_iald hx hb hK hP 1 0 rfl rfl h1 dX1_link_5 ?_
  refine lv_iload_n hx hb dX1_link_6 rfl (lv_at hl 2 rfl) ?_
  refine k_calli (S := Unit) (wc := ([] : va_W)) (wr := (W_X1 cI g0 g1 g2 g3 g4 gn gu gb ga)) (w1 := fun u => ([] : va_W)) (fun u => (W_X1 cI g0 g1 g2 g3 g4 gn gu gb ga)) hP hK hD hN hS hA [] [0, 1, 2, 3, 4] rfl rfl (by decide) (by decide) (by decide) [0, 1, 2, 3, 4] (by decide) (fun _ => rfl) (fun hg => va_runSN (As := [.int (gn (a1).toNatClampNeg), .int a2]) (rest := []) ⟨hx, hb, hml, hown, hts⟩ (c_X4_has l D cI _ (gn (a1).toNatClampNeg) a2) ⟨va_cnB 2 hts gX1_link_X4_has_n28 rfl rfl rfl (hN.at 6 rfl) (hts (.initialized RX4) (by decide +kernel)) (by decide +kernel) ⟨Nat.le_of_ble_eq_true rfl, Nat.le_of_ble_eq_true rfl⟩, hts (.static yX4_has) (by decide +kernel), trivial⟩ ⟨PW.blind, fun U hU hW => ⟨rfl, hg U hU hW⟩⟩ rfl rfl hl.1 rfl (lv_room (Nat.le_of_ble_eq_true rfl)) dX1_link_7 ⟨Nat.le_of_ble_eq_true rfl, Nat.le_of_ble_eq_true rfl⟩) (fun r2 u H locs hw hP hD hS => ?_)
  obtain ⟨hw, hb2⟩ := hw
  subst hw
  refine lv_if_eq (tgt := 15) hx hb dX1_link_10 (by decide) (fun c3 => ?_) (fun c3 => ?_)
  · replace hp := hp.1 c3
    replace he := he.trans (if_pos c3)
    refine lv_aload_n hx hb dX1_link_15 rfl (lv_at hl 0 rfl) ?_
    refine va_get (D := D) (ci := 1) (v := .ref g1) (C := RX1) (T := TX1) (N := 4) hx hb hts (by decide +kernel) hown hK hP 0 rfl rfl 0 (by decide) (hts (.fieldLink RX1 9 "Alarmgrove$Graph" "needed" "[I") (by decide +kernel)) (fun _ h9 => h9) rfl dX1_link_16 ?_
    refine lv_iload_n hx hb dX1_link_19 rfl (lv_at hl 1 rfl) ?_
    refine lv_dup2_11 hx hb dX1_link_20 rfl rfl ?_
    have h4 := hp.1
    replace hp := hp.2
    refine va_iald hx hb hK hP 1 0 rfl rfl h4 dX1_link_21 ?_
    refine lv_iload_n hx hb dX1_link_22 rfl (lv_at hl 2 rfl) ?_
    refine k_calli (S := Unit) (wc := ([] : va_W)) (wr := (W_X1 cI g0 g1 g2 g3 g4 gn gu gb ga)) (w1 := fun u => ([] : va_W)) (fun u => (W_X1 cI g0 g1 g2 g3 g4 gn gu gb ga)) hP hK hD hN hS hA [] [0, 1, 2, 3, 4] rfl rfl (by decide) (by decide) (by decide) [0, 1, 2, 3, 4] (by decide) (fun _ => rfl) (fun hg => va_runSN (As := [.int a2]) (rest := [.int (gn (a1).toNatClampNeg), .int a1, .ref g1]) ⟨hx, hb, hml, hown, hts⟩ (c_X4_only l D cI _ a2) ⟨va_cnB 1 hts gX1_link_X4_only_n24 rfl rfl rfl (hN.at 5 rfl) (hts (.initialized RX4) (by decide +kernel)) (by decide +kernel) ⟨Nat.le_of_ble_eq_true rfl, Nat.le_of_ble_eq_true rfl⟩, hts (.static yX4_only) (by decide +kernel), trivial⟩ ⟨PW.blind, fun U hU hW => ⟨rfl, hg U hU hW⟩⟩ rfl rfl hl.1 rfl (lv_room (Nat.le_of_ble_eq_true rfl)) dX1_link_23 ⟨Nat.le_of_ble_eq_true rfl, Nat.le_of_ble_eq_true rfl⟩) (fun r5 u H locs hw hP hD hS => ?_)
    subst hw
    refine lv_ior hx hb dX1_link_26 ?_
    have h6 := hp.1
    replace hp := hp.2
    refine va_iast hx hb hK hP hD hS 1 0 rfl rfl h6 dX1_link_27 (fun H locs hP hD hS => ?_)
    have hP : va_P D vwCl (W_X1 cI g0 g1 g2 g3 g4 (upd gn (a1).toNatClampNeg ((gn (a1).toNatClampNeg) ||| (f_X4_only a2))) gu gb ga) H := hP
    have hD : va_D A (W_X1 cI g0 g1 g2 g3 g4 (upd gn (a1).toNatClampNeg ((gn (a1).toNatClampNeg) ||| (f_X4_only a2))) gu gb ga) := hD
    refine lv_aload_n hx hb dX1_link_28 rfl (lv_at hl 0 rfl) ?_
    refine va_get (D := D) (ci := 1) (v := .ref g2) (C := RX1) (T := TX1) (N := 4) hx hb hts (by decide +kernel) hown hK hP 0 rfl rfl 1 (by decide) (hts (.fieldLink RX1 15 "Alarmgrove$Graph" "users" "[I") (by decide +kernel)) (fun _ h9 => h9) rfl dX1_link_29 ?_
    refine lv_iload_n hx hb dX1_link_32 rfl (lv_at hl 2 rfl) ?_
    refine lv_dup2_11 hx hb dX1_link_33 rfl rfl ?_
    have h7 := hp.1
    replace hp := hp.2
    refine va_iald hx hb hK hP 2 0 rfl rfl h7 dX1_link_34 ?_
    refine lv_iload_n hx hb dX1_link_35 rfl (lv_at hl 1 rfl) ?_
    refine k_calli (S := Unit) (wc := ([] : va_W)) (wr := (W_X1 cI g0 g1 g2 g3 g4 (upd gn (a1).toNatClampNeg ((gn (a1).toNatClampNeg) ||| (f_X4_only a2))) gu gb ga)) (w1 := fun u => ([] : va_W)) (fun u => (W_X1 cI g0 g1 g2 g3 g4 (upd gn (a1).toNatClampNeg ((gn (a1).toNatClampNeg) ||| (f_X4_only a2))) gu gb ga)) hP hK hD hN hS hA [] [0, 1, 2, 3, 4] rfl rfl (by decide) (by decide) (by decide) [0, 1, 2, 3, 4] (by decide) (fun _ => rfl) (fun hg => va_runSN (As := [.int a1]) (rest := [.int (gu (a2).toNatClampNeg), .int a2, .ref g2]) ⟨hx, hb, hml, hown, hts⟩ (c_X4_only l D cI _ a1) ⟨va_cnB 1 hts gX1_link_X4_only_n24 rfl rfl rfl (hN.at 5 rfl) (hts (.initialized RX4) (by decide +kernel)) (by decide +kernel) ⟨Nat.le_of_ble_eq_true rfl, Nat.le_of_ble_eq_true rfl⟩, hts (.static yX4_only) (by decide +kernel), trivial⟩ ⟨PW.blind, fun U hU hW => ⟨rfl, hg U hU hW⟩⟩ rfl rfl hl.1 rfl (lv_room (Nat.le_of_ble_eq_true rfl)) dX1_link_36 ⟨Nat.le_of_ble_eq_true rfl, Nat.le_of_ble_eq_true rfl⟩) (fun r8 u H locs hw hP hD hS => ?_)
    subst hw
    refine lv_ior hx hb dX1_link_39 ?_
    have h9 := hp.1
    replace hp := hp.2
    refine va_iast hx hb hK hP hD hS 2 0 rfl rfl h9 dX1_link_40 (fun H locs hP hD hS => ?_)
    have hP : va_P D vwCl (W_X1 cI g0 g1 g2 g3 g4 (upd gn (a1).toNatClampNeg ((gn (a1).toNatClampNeg) ||| (f_X4_only a2))) (upd gu (a2).toNatClampNeg ((gu (a2).toNatClampNeg) ||| (f_X4_only a1))) gb ga) H := hP
    have hD : va_D A (W_X1 cI g0 g1 g2 g3 g4 (upd gn (a1).toNatClampNeg ((gn (a1).toNatClampNeg) ||| (f_X4_only a2))) (upd gu (a2).toNatClampNeg ((gu (a2).toNatClampNeg) ||| (f_X4_only a1))) gb ga) := hD
    refine lv_aload_n hx hb dX1_link_41 rfl (lv_at hl 0 rfl) ?_
    have hq10 := hp.1
    replace hp := hp.2
    refine k_callv (S := AA × AA) (wc := (W_X1 cI g0 g1 g2 g3 g4 (upd gn (a1).toNatClampNeg ((gn (a1).toNatClampNeg) ||| (f_X4_only a2))) (upd gu (a2).toNatClampNeg ((gu (a2).toNatClampNeg) ||| (f_X4_only a1))) gb ga)) (wr := ([] : va_W)) (w1 := fun u => (W_X1 cI g0 g1 g2 g3 g4 (upd gn (a1).toNatClampNeg ((gn (a1).toNatClampNeg) ||| (f_X4_only a2))) (upd gu (a2).toNatClampNeg ((gu (a2).toNatClampNeg) ||| (f_X4_only a1))) u.1 u.2)) (fun u => (W_X1 cI g0 g1 g2 g3 g4 (upd gn (a1).toNatClampNeg ((gn (a1).toNatClampNeg) ||| (f_X4_only a2))) (upd gu (a2).toNatClampNeg ((gu (a2).toNatClampNeg) ||| (f_X4_only a1))) u.1 u.2)) hP hK hD hN hS hA [0, 1, 2, 3, 4] [] rfl rfl (by decide) (by decide) (by decide) [0, 1, 2, 3, 4] (by decide) (fun _ => rfl) (fun hg => va_runV (As := []) (rest := []) ⟨hx, hb, hml, hown, hts⟩ (c_X1_followAll l D cI g0 g1 g2 g3 g4 (upd gn (a1).toNatClampNeg ((gn (a1).toNatClampNeg) ||| (f_X4_only a2))) (upd gu (a2).toNatClampNeg ((gu (a2).toNatClampNeg) ||| (f_X4_only a1))) gb ga _ hq10) (cwV 0 hts gX1_link_X1_followAll rfl rfl rfl (by decide +kernel) ⟨Nat.le_of_ble_eq_true rfl, Nat.le_of_ble_eq_true rfl⟩) ⟨PW.blind, va_recv hK hP (ci := 1) (q0 := 0) rfl rfl, fun U hU hW => ⟨rfl, hg U hU hW⟩⟩ rfl rfl hl.1 rfl (lv_room (Nat.le_of_ble_eq_true rfl)) dX1_link_42 ⟨Nat.le_of_ble_eq_true rfl, Nat.le_of_ble_eq_true rfl⟩) (fun u H locs hw hP hD hS => ?_)
    obtain ⟨u10_0, u10_1⟩ := u
    rw [hw] at he
    try dsimp only at he
    replace hp := hp u10_0 u10_1 hw
    have hP : va_P D vwCl (W_X1 cI g0 g1 g2 g3 g4 (upd gn (a1).toNatClampNeg ((gn (a1).toNatClampNeg) ||| (f_X4_only a2))) (upd gu (a2).toNatClampNeg ((gu (a2).toNatClampNeg) ||| (f_X4_only a1))) u10_0 u10_1) H := hP
    have hD : va_D A (W_X1 cI g0 g1 g2 g3 g4 (upd gn (a1).toNatClampNeg ((gn (a1).toNatClampNeg) ||| (f_X4_only a2))) (upd gu (a2).toNatClampNeg ((gu (a2).toNatClampNeg) ||| (f_X4_only a1))) u10_0 u10_1) := hD
    refine lv_iconst (v := 1) hx hb dX1_link_45 (by decide) ?_
    exact W.zret (ty := .boolean) (v := 1) hx hb hr rfl (fun t ht hW => ⟨⟨1, ((upd gn (a1).toNatClampNeg ((gn (a1).toNatClampNeg) ||| (f_X4_only a2))), (upd gu (a2).toNatClampNeg ((gu (a2).toNatClampNeg) ||| (f_X4_only a1))), u10_0, u10_1), rfl, ⟨he, (Or.inr rfl)⟩, by rw [ht]; exact hP, va_K.moved hW.alike hK, hD⟩, hS.F ht⟩) hS.2.2 dX1_link_46
  · replace hp := hp.2 c3
    replace he := he.trans (if_neg c3)
    refine lv_iconst (v := 0) hx hb dX1_link_13 (by decide) ?_
    exact W.zret (ty := .boolean) (v := 0) hx hb hr rfl (fun t ht hW => ⟨⟨0, (gn, gu, gb, ga), rfl, ⟨he, (Or.inl rfl)⟩, by rw [ht]; exact hP, va_K.moved hW.alike hK, hD⟩, hS.F ht⟩) hS.2.2 dX1_link_14
abbrev rm_X1_unlink : Room := { frames := 5, cells := 0, slots := 0, locals := 109 }
abbrev Q_X1_unlink (D : va_G) (cI : ClassId) (g0 g1 g2 g3 g4 : Nat) (gn : AA) (gu : AA) (gb : AA) (ga : AA) (a1 a2 : Int32) (A : Nat → Prop) : Array Value → State → Outcome → State → Prop := va_Qi (S := AA × AA × AA × AA) (fun r u => f_X1_unlink gn gu gb ga a1 a2 = (r, u) ∧ (r = 0 ∨ r = 1)) (fun u t => QW D [(cI, .int)] A (W_X1 cI g0 g1 g2 g3 g4 u.1 u.2.1 u.2.2.1 u.2.2.2) t) A
set_option maxHeartbeats 4000000 in
set_option maxRecDepth 100000 in
theorem c_X1_unlink (l : Launch)  (D : va_G) (cI : ClassId) (g0 g1 g2 g3 g4 : Nat) (gn : AA) (gu : AA) (gb : AA) (ga : AA) (sz : Nat) (a1 a2 : Int32) (hp : p_X1_unlink gn gu gb ga a1 a2) : Met l yX1_unlink wsX1_unlink rm_X1_unlink (va_Pc [.ref g0, .int a1, .int a2] (PW D [(cI, .int)] sz (W_X1 cI g0 g1 g2 g3 g4 gn gu gb ga))) (Q_X1_unlink D cI g0 g1 g2 g3 g4 gn gu gb ga a1 a2 (va_A (W_X1 cI g0 g1 g2 g3 g4 gn gu gb ga) sz)) 0 0 (va_A (W_X1 cI g0 g1 g2 g3 g4 gn gu gb ga) sz) := by
  refine Met.ofW (cc := cX1_unlink) (maxL := 3) (ret := (some .boolean)) (by decide) rfl ?_
  intro p e s m args below meth c s₁ B hml hv
  obtain ⟨rfl, hsz, hP, hK, hD0, hN⟩ := hv
  have hx := B.exec
  have hb := B.bytes
  have hr := B.returns
  have hts := atoms_spec (ws := wsX1_unlink) B.pre
  have hown : s.vm.findClass RX1 = some m.cls := findClass_of_methodNamed B.named
  have hlocks := B.notSynchronized
  subst hsz
  have hD := hD0.self (sz := s.heap.size)
  generalize hAe : va_A (W_X1 cI g0 g1 g2 g3 g4 gn gu gb ga) s.heap.size = A at hD ⊢
  have hA : ∀ q : Nat, s.heap.size ≤ q → A q := fun q h => by rw [← hAe]; exact Or.inr h
  have hS : va_S A s.heap s.heap [] := va_S.rf
  have hl := lv_entry ([.ref g0, .int a1, .int a2]) (n := 3) (Nat.le_of_ble_eq_true rfl)
  rw [lg_entry_eq]
  generalize (lg_sl ([.ref g0, .int a1, .int a2]) ++ List.replicate (3 - (lg_sl ([.ref g0, .int a1, .int a2])).length) Slot.unset).toArray = ls at hl ⊢
  have hl : lv_has ls 3 [(0, .ref g0), (1, .int a1), (2, .int a2)] := hl
  have he := f_X1_unlink.eq_1 gn gu gb ga a1 a2
  replace hp := Eq.mp (p_X1_unlink.eq_1 ..) hp
  refine lv_aload_n hx hb dX1_unlink_0 rfl (lv_at hl 0 rfl) ?_
  refine va_get (D := D) (ci := 1) (v := .ref g1) (C := RX1) (T := TX1) (N := 4) hx hb hts (by decide +kernel) hown hK hP 0 rfl rfl 0 (by decide) (hts (.fieldLink RX1 9 "Alarmgrove$Graph" "needed" "[I") (by decide +kernel)) (fun _ h9 => h9) rfl dX1_unlink_1 ?_
  refine lv_iload_n hx hb dX1_unlink_4 rfl (lv_at hl 1 rfl) ?_
  have h1 := hp.1
  replace hp := hp.2
  refine va_iald hx hb hK hP 1 0 rfl rfl h1 dX1_unlink_5 ?_
  refine lv_iload_n hx hb dX1_unlink_6 rfl (lv_at hl 2 rfl) ?_
  refine k_calli (S := Unit) (wc := ([] : va_W)) (wr := (W_X1 cI g0 g1 g2 g3 g4 gn gu gb ga)) (w1 := fun u => ([] : va_W)) (fun u => (W_X1 cI g0 g1 g2 g3 g4 gn gu gb ga)) hP hK hD hN hS hA [] [0, 1, 2, 3, 4] rfl rfl (by decide) (by decide) (by decide) [0, 1, 2, 3, 4] (by decide) (fun _ => rfl) (fun hg => va_runSN (As := [.int (gn (a1).toNatClampNeg), .int a2]) (rest := []) ⟨hx, hb, hml, hown, hts⟩ (c_X4_has l D cI _ (gn (a1).toNatClampNeg) a2) ⟨va_cnB 2 hts gX1_unlink_X4_has_n28 rfl rfl rfl (hN.at 6 rfl) (hts (.initialized RX4) (by decide +kernel)) (by decide +kernel) ⟨Nat.le_of_ble_eq_true rfl, Nat.le_of_ble_eq_true rfl⟩, hts (.static yX4_has) (by decide +kernel), trivial⟩ ⟨PW.blind, fun U hU hW => ⟨rfl, hg U hU hW⟩⟩ rfl rfl hl.1 rfl (lv_room (Nat.le_of_ble_eq_true rfl)) dX1_unlink_7 ⟨Nat.le_of_ble_eq_true rfl, Nat.le_of_ble_eq_true rfl⟩) (fun r2 u H locs hw hP hD hS => ?_)
  obtain ⟨hw, hb2⟩ := hw
  subst hw
  refine lv_if_ne (tgt := 15) hx hb dX1_unlink_10 (by decide) (fun c3 => ?_) (fun c3 => ?_)
  · replace hp := hp.2 c3
    replace he := he.trans (if_neg c3)
    refine lv_aload_n hx hb dX1_unlink_15 rfl (lv_at hl 0 rfl) ?_
    refine va_get (D := D) (ci := 1) (v := .ref g1) (C := RX1) (T := TX1) (N := 4) hx hb hts (by decide +kernel) hown hK hP 0 rfl rfl 0 (by decide) (hts (.fieldLink RX1 9 "Alarmgrove$Graph" "needed" "[I") (by decide +kernel)) (fun _ h9 => h9) rfl dX1_unlink_16 ?_
    refine lv_iload_n hx hb dX1_unlink_19 rfl (lv_at hl 1 rfl) ?_
    refine lv_dup2_11 hx hb dX1_unlink_20 rfl rfl ?_
    have h4 := hp.1
    replace hp := hp.2
    refine va_iald hx hb hK hP 1 0 rfl rfl h4 dX1_unlink_21 ?_
    refine lv_iload_n hx hb dX1_unlink_22 rfl (lv_at hl 2 rfl) ?_
    refine k_calli (S := Unit) (wc := ([] : va_W)) (wr := (W_X1 cI g0 g1 g2 g3 g4 gn gu gb ga)) (w1 := fun u => ([] : va_W)) (fun u => (W_X1 cI g0 g1 g2 g3 g4 gn gu gb ga)) hP hK hD hN hS hA [] [0, 1, 2, 3, 4] rfl rfl (by decide) (by decide) (by decide) [0, 1, 2, 3, 4] (by decide) (fun _ => rfl) (fun hg => va_runSN (As := [.int a2]) (rest := [.int (gn (a1).toNatClampNeg), .int a1, .ref g1]) ⟨hx, hb, hml, hown, hts⟩ (c_X4_only l D cI _ a2) ⟨va_cnB 1 hts gX1_unlink_X4_only_n24 rfl rfl rfl (hN.at 5 rfl) (hts (.initialized RX4) (by decide +kernel)) (by decide +kernel) ⟨Nat.le_of_ble_eq_true rfl, Nat.le_of_ble_eq_true rfl⟩, hts (.static yX4_only) (by decide +kernel), trivial⟩ ⟨PW.blind, fun U hU hW => ⟨rfl, hg U hU hW⟩⟩ rfl rfl hl.1 rfl (lv_room (Nat.le_of_ble_eq_true rfl)) dX1_unlink_23 ⟨Nat.le_of_ble_eq_true rfl, Nat.le_of_ble_eq_true rfl⟩) (fun r5 u H locs hw hP hD hS => ?_)
    subst hw
    refine lv_iconst (v := (-1)) hx hb dX1_unlink_26 (by decide) ?_
    refine lv_ixor hx hb dX1_unlink_27 ?_
    refine lv_iand hx hb dX1_unlink_28 ?_
    have h6 := hp.1
    replace hp := hp.2
    refine va_iast hx hb hK hP hD hS 1 0 rfl rfl h6 dX1_unlink_29 (fun H locs hP hD hS => ?_)
    have hP : va_P D vwCl (W_X1 cI g0 g1 g2 g3 g4 (upd gn (a1).toNatClampNeg ((gn (a1).toNatClampNeg) &&& ((f_X4_only a2) ^^^ (-1)))) gu gb ga) H := hP
    have hD : va_D A (W_X1 cI g0 g1 g2 g3 g4 (upd gn (a1).toNatClampNeg ((gn (a1).toNatClampNeg) &&& ((f_X4_only a2) ^^^ (-1)))) gu gb ga) := hD
    refine lv_aload_n hx hb dX1_unlink_30 rfl (lv_at hl 0 rfl) ?_
    refine va_get (D := D) (ci := 1) (v := .ref g2) (C := RX1) (T := TX1) (N := 4) hx hb hts (by decide +kernel) hown hK hP 0 rfl rfl 1 (by decide) (hts (.fieldLink RX1 15 "Alarmgrove$Graph" "users" "[I") (by decide +kernel)) (fun _ h9 => h9) rfl dX1_unlink_31 ?_
    refine lv_iload_n hx hb dX1_unlink_34 rfl (lv_at hl 2 rfl) ?_
    refine lv_dup2_11 hx hb dX1_unlink_35 rfl rfl ?_
    have h7 := hp.1
    replace hp := hp.2
    refine va_iald hx hb hK hP 2 0 rfl rfl h7 dX1_unlink_36 ?_
    refine lv_iload_n hx hb dX1_unlink_37 rfl (lv_at hl 1 rfl) ?_
    refine k_calli (S := Unit) (wc := ([] : va_W)) (wr := (W_X1 cI g0 g1 g2 g3 g4 (upd gn (a1).toNatClampNeg ((gn (a1).toNatClampNeg) &&& ((f_X4_only a2) ^^^ (-1)))) gu gb ga)) (w1 := fun u => ([] : va_W)) (fun u => (W_X1 cI g0 g1 g2 g3 g4 (upd gn (a1).toNatClampNeg ((gn (a1).toNatClampNeg) &&& ((f_X4_only a2) ^^^ (-1)))) gu gb ga)) hP hK hD hN hS hA [] [0, 1, 2, 3, 4] rfl rfl (by decide) (by decide) (by decide) [0, 1, 2, 3, 4] (by decide) (fun _ => rfl) (fun hg => va_runSN (As := [.int a1]) (rest := [.int (gu (a2).toNatClampNeg), .int a2, .ref g2]) ⟨hx, hb, hml, hown, hts⟩ (c_X4_only l D cI _ a1) ⟨va_cnB 1 hts gX1_unlink_X4_only_n24 rfl rfl rfl (hN.at 5 rfl) (hts (.initialized RX4) (by decide +kernel)) (by decide +kernel) ⟨Nat.le_of_ble_eq_true rfl, Nat.le_of_ble_eq_true rfl⟩, hts (.static yX4_only) (by decide +kernel), trivial⟩ ⟨PW.blind, fun U hU hW => ⟨rfl, hg U hU hW⟩⟩ rfl rfl hl.1 rfl (lv_room (Nat.le_of_ble_eq_true rfl)) dX1_unlink_38 ⟨Nat.le_of_ble_eq_true rfl, Nat.le_of_ble_eq_true rfl⟩) (fun r8 u H locs hw hP hD hS => ?_)
    subst hw
    refine lv_iconst (v := (-1)) hx hb dX1_unlink_41 (by decide) ?_
    refine lv_ixor hx hb dX1_unlink_42 ?_
    refine lv_iand hx hb dX1_unlink_43 ?_
    have h9 := hp.1
    replace hp := hp.2
    refine va_iast hx hb hK hP hD hS 2 0 rfl rfl h9 dX1_unlink_44 (fun H locs hP hD hS => ?_)
    have hP : va_P D vwCl (W_X1 cI g0 g1 g2 g3 g4 (upd gn (a1).toNatClampNeg ((gn (a1).toNatClampNeg) &&& ((f_X4_only a2) ^^^ (-1)))) (upd gu (a2).toNatClampNeg ((gu (a2).toNatClampNeg) &&& ((f_X4_only a1) ^^^ (-1)))) gb ga) H := hP
    have hD : va_D A (W_X1 cI g0 g1 g2 g3 g4 (upd gn (a1).toNatClampNeg ((gn (a1).toNatClampNeg) &&& ((f_X4_only a2) ^^^ (-1)))) (upd gu (a2).toNatClampNeg ((gu (a2).toNatClampNeg) &&& ((f_X4_only a1) ^^^ (-1)))) gb ga) := hD
    refine lv_aload_n hx hb dX1_unlink_45 rfl (lv_at hl 0 rfl) ?_
    have hq10 := hp.1
    replace hp := hp.2
    refine k_callv (S := AA × AA) (wc := (W_X1 cI g0 g1 g2 g3 g4 (upd gn (a1).toNatClampNeg ((gn (a1).toNatClampNeg) &&& ((f_X4_only a2) ^^^ (-1)))) (upd gu (a2).toNatClampNeg ((gu (a2).toNatClampNeg) &&& ((f_X4_only a1) ^^^ (-1)))) gb ga)) (wr := ([] : va_W)) (w1 := fun u => (W_X1 cI g0 g1 g2 g3 g4 (upd gn (a1).toNatClampNeg ((gn (a1).toNatClampNeg) &&& ((f_X4_only a2) ^^^ (-1)))) (upd gu (a2).toNatClampNeg ((gu (a2).toNatClampNeg) &&& ((f_X4_only a1) ^^^ (-1)))) u.1 u.2)) (fun u => (W_X1 cI g0 g1 g2 g3 g4 (upd gn (a1).toNatClampNeg ((gn (a1).toNatClampNeg) &&& ((f_X4_only a2) ^^^ (-1)))) (upd gu (a2).toNatClampNeg ((gu (a2).toNatClampNeg) &&& ((f_X4_only a1) ^^^ (-1)))) u.1 u.2)) hP hK hD hN hS hA [0, 1, 2, 3, 4] [] rfl rfl (by decide) (by decide) (by decide) [0, 1, 2, 3, 4] (by decide) (fun _ => rfl) (fun hg => va_runV (As := []) (rest := []) ⟨hx, hb, hml, hown, hts⟩ (c_X1_followAll l D cI g0 g1 g2 g3 g4 (upd gn (a1).toNatClampNeg ((gn (a1).toNatClampNeg) &&& ((f_X4_only a2) ^^^ (-1)))) (upd gu (a2).toNatClampNeg ((gu (a2).toNatClampNeg) &&& ((f_X4_only a1) ^^^ (-1)))) gb ga _ hq10) (cwV 0 hts gX1_unlink_X1_followAll rfl rfl rfl (by decide +kernel) ⟨Nat.le_of_ble_eq_true rfl, Nat.le_of_ble_eq_true rfl⟩) ⟨PW.blind, va_recv hK hP (ci := 1) (q0 := 0) rfl rfl, fun U hU hW => ⟨rfl, hg U hU hW⟩⟩ rfl rfl hl.1 rfl (lv_room (Nat.le_of_ble_eq_true rfl)) dX1_unlink_46 ⟨Nat.le_of_ble_eq_true rfl, Nat.le_of_ble_eq_true rfl⟩) (fun u H locs hw hP hD hS => ?_)
    obtain ⟨u10_0, u10_1⟩ := u
    rw [hw] at he
    try dsimp only at he
    replace hp := hp u10_0 u10_1 hw
    have hP : va_P D vwCl (W_X1 cI g0 g1 g2 g3 g4 (upd gn (a1).toNatClampNeg ((gn (a1).toNatClampNeg) &&& ((f_X4_only a2) ^^^ (-1)))) (upd gu (a2).toNatClampNeg ((gu (a2).toNatClampNeg) &&& ((f_X4_only a1) ^^^ (-1)))) u10_0 u10_1) H := hP
    have hD : va_D A (W_X1 cI g0 g1 g2 g3 g4 (upd gn (a1).toNatClampNeg ((gn (a1).toNatClampNeg) &&& ((f_X4_only a2) ^^^ (-1)))) (upd gu (a2).toNatClampNeg ((gu (a2).toNatClampNeg) &&& ((f_X4_only a1) ^^^ (-1)))) u10_0 u10_1) := hD
    refine lv_iconst (v := 1) hx hb dX1_unlink_49 (by decide) ?_
    exact W.zret (ty := .boolean) (v := 1) hx hb hr rfl (fun t ht hW => ⟨⟨1, ((upd gn (a1).toNatClampNeg ((gn (a1).toNatClampNeg) &&& ((f_X4_only a2) ^^^ (-1)))), (upd gu (a2).toNatClampNeg ((gu (a2).toNatClampNeg) &&& ((f_X4_only a1) ^^^ (-1)))), u10_0, u10_1), rfl, ⟨he, (Or.inr rfl)⟩, by rw [ht]; exact hP, va_K.moved hW.alike hK, hD⟩, hS.F ht⟩) hS.2.2 dX1_unlink_50
  · replace hp := hp.1 c3
    replace he := he.trans (if_pos c3)
    refine lv_iconst (v := 0) hx hb dX1_unlink_13 (by decide) ?_
    exact W.zret (ty := .boolean) (v := 0) hx hb hr rfl (fun t ht hW => ⟨⟨0, (gn, gu, gb, ga), rfl, ⟨he, (Or.inl rfl)⟩, by rw [ht]; exact hP, va_K.moved hW.alike hK, hD⟩, hS.F ht⟩) hS.2.2 dX1_unlink_14
abbrev rm_X1_longestWayDown : Room := { frames := 3, cells := 0, slots := 0, locals := 64 }
abbrev Q_X1_longestWayDown (D : va_G) (cI : ClassId) (g0 g1 g2 g3 g4 : Nat) (gn : AA) (gu : AA) (gb : AA) (ga : AA) (a1 : Int32) (A : Nat → Prop) : Array Value → State → Outcome → State → Prop := va_Qi (S := Unit) (fun r u => f_X1_longestWayDown gn a1 = r) (fun u t => QW D [(cI, .int)] A (W_X1 cI g0 g1 g2 g3 g4 gn gu gb ga) t) A
set_option maxHeartbeats 4000000 in
set_option maxRecDepth 100000 in
theorem c_X1_longestWayDown (l : Launch)  (D : va_G) (cI : ClassId) (g0 g1 g2 g3 g4 : Nat) (gn : AA) (gu : AA) (gb : AA) (ga : AA) (sz : Nat) (a1 : Int32) (hp : p_X1_longestWayDown gn a1) : Met l yX1_longestWayDown wsX1_longestWayDown rm_X1_longestWayDown (va_Pc [.ref g0, .int a1] (PW D [(cI, .int)] sz (W_X1 cI g0 g1 g2 g3 g4 gn gu gb ga))) (Q_X1_longestWayDown D cI g0 g1 g2 g3 g4 gn gu gb ga a1 (va_A (W_X1 cI g0 g1 g2 g3 g4 gn gu gb ga) sz)) 0 0 (va_A (W_X1 cI g0 g1 g2 g3 g4 gn gu gb ga) sz) := by
  refine Met.ofW (cc := cX1_longestWayDown) (maxL := 4) (ret := (some .int)) (by decide) rfl ?_
  intro p e s m args below meth c s₁ B hml hv
  obtain ⟨rfl, hsz, hP, hK, hD0, hN⟩ := hv
  have hx := B.exec
  have hb := B.bytes
  have hr := B.returns
  have hts := atoms_spec (ws := wsX1_longestWayDown) B.pre
  have hown : s.vm.findClass RX1 = some m.cls := findClass_of_methodNamed B.named
  have hlocks := B.notSynchronized
  subst hsz
  have hD := hD0.self (sz := s.heap.size)
  generalize hAe : va_A (W_X1 cI g0 g1 g2 g3 g4 gn gu gb ga) s.heap.size = A at hD ⊢
  have hA : ∀ q : Nat, s.heap.size ≤ q → A q := fun q h => by rw [← hAe]; exact Or.inr h
  have hS : va_S A s.heap s.heap [] := va_S.rf
  have hl := lv_entry ([.ref g0, .int a1]) (n := 4) (Nat.le_of_ble_eq_true rfl)
  rw [lg_entry_eq]
  generalize (lg_sl ([.ref g0, .int a1]) ++ List.replicate (4 - (lg_sl ([.ref g0, .int a1])).length) Slot.unset).toArray = ls at hl ⊢
  have hl : lv_has ls 4 [(0, .ref g0), (1, .int a1)] := hl
  have he := f_X1_longestWayDown.eq_1 gn a1
  replace hp := Eq.mp (p_X1_longestWayDown.eq_1 ..) hp
  refine lv_iconst (v := 0) hx hb dX1_longestWayDown_0 (by decide) ?_
  refine lv_istore_n (lv' := [(2, .int 0), (0, .ref g0), (1, .int a1)]) hx hb dX1_longestWayDown_1 rfl hl (by decide) rfl (fun ls hl => ?_)
  refine lv_aload_n hx hb dX1_longestWayDown_2 rfl (lv_at hl 1 rfl) ?_
  refine va_get (D := D) (ci := 1) (v := .ref g1) (C := RX1) (T := TX1) (N := 4) hx hb hts (by decide +kernel) hown hK hP 0 rfl rfl 0 (by decide) (hts (.fieldLink RX1 9 "Alarmgrove$Graph" "needed" "[I") (by decide +kernel)) (fun _ h9 => h9) rfl dX1_longestWayDown_3 ?_
  refine lv_iload_n hx hb dX1_longestWayDown_6 rfl (lv_at hl 2 rfl) ?_
  refine k_calli (S := Unit) (wc := ([] : va_W)) (wr := (W_X1 cI g0 g1 g2 g3 g4 gn gu gb ga)) (w1 := fun u => ([] : va_W)) (fun u => (W_X1 cI g0 g1 g2 g3 g4 gn gu gb ga)) hP hK hD hN hS hA [] [0, 1, 2, 3, 4] rfl rfl (by decide) (by decide) (by decide) [0, 1, 2, 3, 4] (by decide) (fun _ => rfl) (fun hg => va_runSN (As := [.int a1]) (rest := [.ref g1]) ⟨hx, hb, hml, hown, hts⟩ (c_X4_only l D cI _ a1) ⟨va_cnB 1 hts gX1_longestWayDown_X4_only_n24 rfl rfl rfl (hN.at 5 rfl) (hts (.initialized RX4) (by decide +kernel)) (by decide +kernel) ⟨Nat.le_of_ble_eq_true rfl, Nat.le_of_ble_eq_true rfl⟩, hts (.static yX4_only) (by decide +kernel), trivial⟩ ⟨PW.blind, fun U hU hW => ⟨rfl, hg U hU hW⟩⟩ rfl rfl hl.1 rfl (lv_room (Nat.le_of_ble_eq_true rfl)) dX1_longestWayDown_7 ⟨Nat.le_of_ble_eq_true rfl, Nat.le_of_ble_eq_true rfl⟩) (fun r1 u H locs hw hP hD hS => ?_)
  subst hw
  have hq2 := hp.1
  replace hp := hp.2
  refine k_calli (S := Unit) (wc := (W_A cI g1 gn)) (wr := ([(g0, .inr (1, [.ref g1, .ref g2, .ref g3, .ref g4]))] ++ (W_A cI g2 gu) ++ (W_A cI g3 gb) ++ (W_A cI g4 ga))) (w1 := fun u => (W_A cI g1 gn)) (fun u => (W_X1 cI g0 g1 g2 g3 g4 gn gu gb ga)) hP hK hD hN hS hA [1] [0, 2, 3, 4] rfl rfl (by decide) (by decide) (by decide) [0, 4, 1, 2, 3] (by decide) (fun _ => rfl) (fun hg => va_runS (As := [.ref g1, .int (f_X4_only a1)]) (rest := []) ⟨hx, hb, hml, hown, hts⟩ (c_X1_step l D cI g1 gn _ (f_X4_only a1) hq2) (va_cwS 2 hts gX1_longestWayDown_X1_step rfl rfl rfl (by decide +kernel) ⟨Nat.le_of_ble_eq_true rfl, Nat.le_of_ble_eq_true rfl⟩) ⟨PW.blind, fun U hU hW => ⟨rfl, hg U hU hW⟩⟩ rfl rfl hl.1 rfl (lv_room (Nat.le_of_ble_eq_true rfl)) dX1_longestWayDown_10 ⟨Nat.le_of_ble_eq_true rfl, Nat.le_of_ble_eq_true rfl⟩) (fun r2 u H locs hw hP hD hS => ?_)
  subst hw
  refine lv_istore_n (lv' := [(3, .int (f_X1_step gn (f_X4_only a1))), (2, .int 0), (0, .ref g0), (1, .int a1)]) hx hb dX1_longestWayDown_13 rfl hl (by decide) rfl (fun ls hl => ?_)
  obtain ⟨⟨r3_v14_2, r3_v14_3⟩, hL3⟩ : ∃ z, z = f_X1_longestWayDown_L14 gn 15 (0 : Int32) (f_X1_step gn (f_X4_only a1)) := ⟨_, rfl⟩
  rw [← hL3] at he
  try dsimp only at he
  have hpL3 := hp.1
  replace hp := hp.2 _ _ hL3.symm
  have kont3 : ∀ (x3_v14_2 : Int32) (x3_v14_3 : Int32), (r3_v14_2, r3_v14_3) = (x3_v14_2, x3_v14_3) → ∀ (H : Heap) (locs : List Loc), va_P D vwCl (W_X1 cI g0 g1 g2 g3 g4 gn gu gb ga) H → va_D A (W_X1 cI g0 g1 g2 g3 g4 gn gu gb ga) → va_S A s.heap H locs → ∀ ls : Array Slot, lv_has ls 4 [(2, .int x3_v14_2)] → W p l e (headSpec wsX1_longestWayDown rm_X1_longestWayDown).room s m ([.ref g0, .int a1] : List Value).toArray below meth c H locs 0 0 (MQ below (Q_X1_longestWayDown D cI g0 g1 g2 g3 g4 gn gu gb ga a1 A) ([.ref g0, .int a1] : List Value).toArray s 0 0 A) (F0 m 39 ls []) := by
    intro x3_v14_2 x3_v14_3 hxe H locs hP hD hS ls hl
    simp only [Prod.mk.injEq] at hxe
    obtain ⟨rfl, rfl⟩ := hxe
    refine lv_iload_n hx hb dX1_longestWayDown_39 rfl (lv_at hl 0 rfl) ?_
    exact W.iret (v := r3_v14_2) hx hb hr (fun t ht hW => ⟨⟨r3_v14_2, (), rfl, he, by rw [ht]; exact hP, va_K.moved hW.alike hK, hD⟩, hS.F ht⟩) hS.2.2 dX1_longestWayDown_40
  have loop3 : ∀ (n : Nat) (v14_2 : Int32) (v14_3 : Int32), p_X1_longestWayDown_L14 gn n v14_2 v14_3 → (r3_v14_2, r3_v14_3) = f_X1_longestWayDown_L14 gn n v14_2 v14_3 → ∀ (H : Heap) (locs : List Loc), va_P D vwCl (W_X1 cI g0 g1 g2 g3 g4 gn gu gb ga) H → va_D A (W_X1 cI g0 g1 g2 g3 g4 gn gu gb ga) → va_S A s.heap H locs → ∀ ls : Array Slot, lv_has ls 4 [(3, .int v14_3), (2, .int v14_2), (0, .ref g0)] → W p l e (headSpec wsX1_longestWayDown rm_X1_longestWayDown).room s m ([.ref g0, .int a1] : List Value).toArray below meth c H locs 0 0 (MQ below (Q_X1_longestWayDown D cI g0 g1 g2 g3 g4 gn gu gb ga a1 A) ([.ref g0, .int a1] : List Value).toArray s 0 0 A) (F0 m 14 ls []) := by
    intro n
    induction n with
    | zero => exact fun _ _ hp => hp.elim
    | succ n ih =>
      intro v14_2 v14_3 hp he H locs hP hD hS ls hl
      replace hp := Eq.mp (p_X1_longestWayDown_L14.eq_2 ..) hp
      replace he := he.trans (f_X1_longestWayDown_L14.eq_2 ..)
      refine lv_iload_n hx hb dX1_longestWayDown_14 rfl (lv_at hl 0 rfl) ?_
      refine lv_if_eq (tgt := 39) hx hb dX1_longestWayDown_15 (by decide) (fun c4 => ?_) (fun c4 => ?_)
      · replace hp := hp.1 c4
        replace he := he.trans (if_pos c4)
        exact kont3 _ _ he _ _ hP hD hS _ (lv_sub hl [1] rfl)
      · replace hp := hp.2 c4
        replace he := he.trans (if_neg c4)
        refine lv_iload_n hx hb dX1_longestWayDown_18 rfl (lv_at hl 1 rfl) ?_
        refine lv_bipush (v := 14) hx hb dX1_longestWayDown_19 (by decide) ?_
        refine lv_icmp_ge (tgt := 39) hx hb dX1_longestWayDown_21 (by decide) (fun c5 => ?_) (fun c5 => ?_)
        · replace hp := hp.1 c5
          replace he := he.trans (if_pos c5)
          exact kont3 _ _ he _ _ hP hD hS _ (lv_sub hl [1] rfl)
        · replace hp := hp.2 c5
          replace he := he.trans (if_neg c5)
          refine lv_iinc (v := (v14_2 + 1)) (lv' := [(2, .int (v14_2 + 1)), (3, .int v14_3), (0, .ref g0)]) hx hb dX1_longestWayDown_24 hl (k := 1) rfl rfl (by decide) rfl (fun ls hl => ?_)
          refine lv_aload_n hx hb dX1_longestWayDown_27 rfl (lv_at hl 2 rfl) ?_
          refine va_get (D := D) (ci := 1) (v := .ref g1) (C := RX1) (T := TX1) (N := 4) hx hb hts (by decide +kernel) hown hK hP 0 rfl rfl 0 (by decide) (hts (.fieldLink RX1 9 "Alarmgrove$Graph" "needed" "[I") (by decide +kernel)) (fun _ h9 => h9) rfl dX1_longestWayDown_28 ?_
          refine lv_iload_n hx hb dX1_longestWayDown_31 rfl (lv_at hl 1 rfl) ?_
          have hq6 := hp.1
          replace hp := hp.2
          refine k_calli (S := Unit) (wc := (W_A cI g1 gn)) (wr := ([(g0, .inr (1, [.ref g1, .ref g2, .ref g3, .ref g4]))] ++ (W_A cI g2 gu) ++ (W_A cI g3 gb) ++ (W_A cI g4 ga))) (w1 := fun u => (W_A cI g1 gn)) (fun u => (W_X1 cI g0 g1 g2 g3 g4 gn gu gb ga)) hP hK hD hN hS hA [1] [0, 2, 3, 4] rfl rfl (by decide) (by decide) (by decide) [0, 4, 1, 2, 3] (by decide) (fun _ => rfl) (fun hg => va_runS (As := [.ref g1, .int v14_3]) (rest := []) ⟨hx, hb, hml, hown, hts⟩ (c_X1_step l D cI g1 gn _ v14_3 hq6) (va_cwS 2 hts gX1_longestWayDown_X1_step rfl rfl rfl (by decide +kernel) ⟨Nat.le_of_ble_eq_true rfl, Nat.le_of_ble_eq_true rfl⟩) ⟨PW.blind, fun U hU hW => ⟨rfl, hg U hU hW⟩⟩ rfl rfl hl.1 rfl (lv_room (Nat.le_of_ble_eq_true rfl)) dX1_longestWayDown_32 ⟨Nat.le_of_ble_eq_true rfl, Nat.le_of_ble_eq_true rfl⟩) (fun r6 u H locs hw hP hD hS => ?_)
          subst hw
          refine lv_istore_n (lv' := [(3, .int (f_X1_step gn v14_3)), (2, .int (v14_2 + 1)), (0, .ref g0)]) hx hb dX1_longestWayDown_35 rfl hl (by decide) rfl (fun ls hl => ?_)
          refine lv_goto (tgt := 14) hx hb dX1_longestWayDown_36 (by decide) ?_
          exact ih _ _ hp he _ _ hP hD hS _ (lv_sub hl [0, 1, 2] rfl)
  exact loop3 15 (0 : Int32) (f_X1_step gn (f_X4_only a1)) hpL3 hL3 _ _ hP hD hS _ (lv_sub hl [0, 1, 2] rfl)
abbrev rm_X1_init : Room := { frames := 1, cells := 4, slots := 56, locals := 12 }
abbrev Q_X1_init (D : va_G) (cI : ClassId) (g0 : Nat) (A : Nat → Prop) : Array Value → State → Outcome → State → Prop := va_Qv (S := (AA × AA × AA × AA) × (Nat × Nat × Nat × Nat)) (fun u => f_X1_init = u.1) (fun u t => QW D [(cI, .int)] A (W_X1 cI g0 u.2.1 u.2.2.1 u.2.2.2.1 u.2.2.2.2 u.1.1 u.1.2.1 u.1.2.2.1 u.1.2.2.2) t) A
set_option maxHeartbeats 4000000 in
set_option maxRecDepth 100000 in
theorem c_X1_init (l : Launch)  (D : va_G) (cI : ClassId) (g0 : Nat) (sz : Nat) : Met l yX1_init wsX1_init rm_X1_init (va_Pc [.ref g0] (PW D [(cI, .int)] sz [(g0, .inr (1, [.null, .null, .null, .null]))])) (Q_X1_init D cI g0 (va_A [(g0, .inr (1, [.null, .null, .null, .null]))] sz)) 4 56 (va_A [(g0, .inr (1, [.null, .null, .null, .null]))] sz) := by
  refine Met.ofW (cc := cX1_init) (maxL := 1) (ret := none) (by decide) rfl ?_
  intro p e s m args below meth c s₁ B hml hv
  obtain ⟨rfl, hsz, hP, hK, hD0, hN⟩ := hv
  have hx := B.exec
  have hb := B.bytes
  have hr := B.returns
  have hts := atoms_spec (ws := wsX1_init) B.pre
  have hown : s.vm.findClass RX1 = some m.cls := findClass_of_methodNamed B.named
  have hlocks := B.notSynchronized
  have hin : meth.name = "<init>" := (name_of_methodNamed B.named B.method).1
  subst hsz
  have hD := hD0.self (sz := s.heap.size)
  generalize hAe : va_A [(g0, .inr (1, [.null, .null, .null, .null]))] s.heap.size = A at hD ⊢
  have hA : ∀ q : Nat, s.heap.size ≤ q → A q := fun q h => by rw [← hAe]; exact Or.inr h
  have hS : va_S A s.heap s.heap [] := va_S.rf
  have hl := lv_entry ([.ref g0]) (n := 1) (Nat.le_of_ble_eq_true rfl)
  rw [lg_entry_eq]
  generalize (lg_sl ([.ref g0]) ++ List.replicate (1 - (lg_sl ([.ref g0])).length) Slot.unset).toArray = ls at hl ⊢
  have hl : lv_has ls 1 [(0, .ref g0)] := hl
  have he := f_X1_init.eq_1
  refine lv_aload_n hx hb dX1_init_0 rfl (lv_at hl 0 rfl) ?_
  refine W.objInit hx hb hown (hts (.methodLink RX1 3 objectInit) (by decide +kernel)) (hts (.instanceMethod objectInit) (by decide +kernel)) (hts (.code objectInit ⟨#[0xb1]⟩ 1 none) (by decide +kernel)) rfl (by rw [hml]; exact hl.1) rfl dX1_init_1 (Nat.le_of_ble_eq_true rfl) (Nat.le_of_ble_eq_true rfl) ?_
  refine W.eq (g2 := F0 m 4 ls []) rfl ?_
  refine lv_aload_n hx hb dX1_init_4 rfl (lv_at hl 0 rfl) ?_
  refine lv_bipush (v := 14) hx hb dX1_init_5 (by decide) ?_
  refine k_newI (N' := 14) hx hb (hts (.arrayClass .int) (by decide +kernel)) hK hP hD hS hA (by decide) (by decide) (by decide) (Nat.le_of_ble_eq_true rfl) (Nat.le_of_ble_eq_true rfl) dX1_init_7 (fun q7 H hP hD hS => ?_)
  have hP : va_P D vwCl ([(g0, .inr (1, [.null, .null, .null, .null]))] ++ (W_A cI q7 (fun _ => 0))) H := hP
  have hD : va_D A ([(g0, .inr (1, [.null, .null, .null, .null]))] ++ (W_A cI q7 (fun _ => 0))) := hD
  refine va_putF (D := D) (ci := 1) (v := .ref q7) (ty := (.array .int)) (C := RX1) (T := TX1) (N := 4) hx hb hts (by decide +kernel) tyX1 tyX1_ok nmX1 hown hK hP hD hS 0 rfl rfl 0 (by decide) (hts (.fieldLink RX1 9 "Alarmgrove$Graph" "needed" "[I") (by decide +kernel)) (fun _ h9 => h9) rfl hin rfl (by decide +kernel) rfl rfl (Nat.le_of_ble_eq_true rfl) dX1_init_9 (fun H locs hP hD hS => ?_)
  have hP : va_P D vwCl ([(g0, .inr (1, [.ref q7, .null, .null, .null]))] ++ (W_A cI q7 (fun _ => 0))) H := hP
  have hD : va_D A ([(g0, .inr (1, [.ref q7, .null, .null, .null]))] ++ (W_A cI q7 (fun _ => 0))) := hD
  refine lv_aload_n hx hb dX1_init_12 rfl (lv_at hl 0 rfl) ?_
  refine lv_bipush (v := 14) hx hb dX1_init_13 (by decide) ?_
  refine k_newI (N' := 14) hx hb (hts (.arrayClass .int) (by decide +kernel)) hK hP hD hS hA (by decide) (by decide) (by decide) (Nat.le_of_ble_eq_true rfl) (Nat.le_of_ble_eq_true rfl) dX1_init_15 (fun q15 H hP hD hS => ?_)
  have hP : va_P D vwCl ([(g0, .inr (1, [.ref q7, .null, .null, .null]))] ++ (W_A cI q7 (fun _ => 0)) ++ (W_A cI q15 (fun _ => 0))) H := hP
  have hD : va_D A ([(g0, .inr (1, [.ref q7, .null, .null, .null]))] ++ (W_A cI q7 (fun _ => 0)) ++ (W_A cI q15 (fun _ => 0))) := hD
  refine va_putF (D := D) (ci := 1) (v := .ref q15) (ty := (.array .int)) (C := RX1) (T := TX1) (N := 4) hx hb hts (by decide +kernel) tyX1 tyX1_ok nmX1 hown hK hP hD hS 0 rfl rfl 1 (by decide) (hts (.fieldLink RX1 15 "Alarmgrove$Graph" "users" "[I") (by decide +kernel)) (fun _ h9 => h9) rfl hin rfl (by decide +kernel) rfl rfl (Nat.le_of_ble_eq_true rfl) dX1_init_17 (fun H locs hP hD hS => ?_)
  have hP : va_P D vwCl ([(g0, .inr (1, [.ref q7, .ref q15, .null, .null]))] ++ (W_A cI q7 (fun _ => 0)) ++ (W_A cI q15 (fun _ => 0))) H := hP
  have hD : va_D A ([(g0, .inr (1, [.ref q7, .ref q15, .null, .null]))] ++ (W_A cI q7 (fun _ => 0)) ++ (W_A cI q15 (fun _ => 0))) := hD
  refine lv_aload_n hx hb dX1_init_20 rfl (lv_at hl 0 rfl) ?_
  refine lv_bipush (v := 14) hx hb dX1_init_21 (by decide) ?_
  refine k_newI (N' := 14) hx hb (hts (.arrayClass .int) (by decide +kernel)) hK hP hD hS hA (by decide) (by decide) (by decide) (Nat.le_of_ble_eq_true rfl) (Nat.le_of_ble_eq_true rfl) dX1_init_23 (fun q23 H hP hD hS => ?_)
  have hP : va_P D vwCl ([(g0, .inr (1, [.ref q7, .ref q15, .null, .null]))] ++ (W_A cI q7 (fun _ => 0)) ++ (W_A cI q15 (fun _ => 0)) ++ (W_A cI q23 (fun _ => 0))) H := hP
  have hD : va_D A ([(g0, .inr (1, [.ref q7, .ref q15, .null, .null]))] ++ (W_A cI q7 (fun _ => 0)) ++ (W_A cI q15 (fun _ => 0)) ++ (W_A cI q23 (fun _ => 0))) := hD
  refine va_putF (D := D) (ci := 1) (v := .ref q23) (ty := (.array .int)) (C := RX1) (T := TX1) (N := 4) hx hb hts (by decide +kernel) tyX1 tyX1_ok nmX1 hown hK hP hD hS 0 rfl rfl 2 (by decide) (hts (.fieldLink RX1 18 "Alarmgrove$Graph" "below" "[I") (by decide +kernel)) (fun _ h9 => h9) rfl hin rfl (by decide +kernel) rfl rfl (Nat.le_of_ble_eq_true rfl) dX1_init_25 (fun H locs hP hD hS => ?_)
  have hP : va_P D vwCl ([(g0, .inr (1, [.ref q7, .ref q15, .ref q23, .null]))] ++ (W_A cI q7 (fun _ => 0)) ++ (W_A cI q15 (fun _ => 0)) ++ (W_A cI q23 (fun _ => 0))) H := hP
  have hD : va_D A ([(g0, .inr (1, [.ref q7, .ref q15, .ref q23, .null]))] ++ (W_A cI q7 (fun _ => 0)) ++ (W_A cI q15 (fun _ => 0)) ++ (W_A cI q23 (fun _ => 0))) := hD
  refine lv_aload_n hx hb dX1_init_28 rfl (lv_at hl 0 rfl) ?_
  refine lv_bipush (v := 14) hx hb dX1_init_29 (by decide) ?_
  refine k_newI (N' := 14) hx hb (hts (.arrayClass .int) (by decide +kernel)) hK hP hD hS hA (by decide) (by decide) (by decide) (Nat.le_of_ble_eq_true rfl) (Nat.le_of_ble_eq_true rfl) dX1_init_31 (fun q31 H hP hD hS => ?_)
  have hP : va_P D vwCl ([(g0, .inr (1, [.ref q7, .ref q15, .ref q23, .null]))] ++ (W_A cI q7 (fun _ => 0)) ++ (W_A cI q15 (fun _ => 0)) ++ (W_A cI q23 (fun _ => 0)) ++ (W_A cI q31 (fun _ => 0))) H := hP
  have hD : va_D A ([(g0, .inr (1, [.ref q7, .ref q15, .ref q23, .null]))] ++ (W_A cI q7 (fun _ => 0)) ++ (W_A cI q15 (fun _ => 0)) ++ (W_A cI q23 (fun _ => 0)) ++ (W_A cI q31 (fun _ => 0))) := hD
  refine va_putF (D := D) (ci := 1) (v := .ref q31) (ty := (.array .int)) (C := RX1) (T := TX1) (N := 4) hx hb hts (by decide +kernel) tyX1 tyX1_ok nmX1 hown hK hP hD hS 0 rfl rfl 3 (by decide) (hts (.fieldLink RX1 21 "Alarmgrove$Graph" "above" "[I") (by decide +kernel)) (fun _ h9 => h9) rfl hin rfl (by decide +kernel) rfl rfl (Nat.le_of_ble_eq_true rfl) dX1_init_33 (fun H locs hP hD hS => ?_)
  have hP : va_P D vwCl (W_X1 cI g0 q7 q15 q23 q31 (fun _ => 0) (fun _ => 0) (fun _ => 0) (fun _ => 0)) H := hP
  have hD : va_D A (W_X1 cI g0 q7 q15 q23 q31 (fun _ => 0) (fun _ => 0) (fun _ => 0) (fun _ => 0)) := hD
  exact W.vret hx hb hr (fun t ht hW => ⟨⟨(((fun _ => 0), (fun _ => 0), (fun _ => 0), (fun _ => 0)), (q7, q15, q23, q31)), rfl, he, by rw [ht]; exact hP, va_K.moved hW.alike hK, hD⟩, hS.F ht⟩) hS.2.2 dX1_init_36
