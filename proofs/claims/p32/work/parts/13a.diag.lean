abbrev rm_X0_plausibleOf : Room := { frames := 1, cells := 0, slots := 0, locals := 21 }
abbrev Q_X0_plausibleOf (D : va_G) (cI : ClassId) (g0 g1 g2 g3 g4 : Nat) (gn : AA) (gu : AA) (gb : AA) (ga : AA) (a1 : Int32) (A : Nat → Prop) : Array Value → State → Outcome → State → Prop := va_Qi (S := Unit) (fun r u => f_X0_plausibleOf gu a1 = r) (fun u t => QW D [(cI, .int)] A (W_X1 cI g0 g1 g2 g3 g4 gn gu gb ga) t) A
set_option maxHeartbeats 4000000 in
set_option maxRecDepth 100000 in
theorem c_X0_plausibleOf (l : Launch)  (D : va_G) (cI : ClassId) (g0 g1 g2 g3 g4 : Nat) (gn : AA) (gu : AA) (gb : AA) (ga : AA) (sz : Nat) (a1 : Int32) (hp : p_X0_plausibleOf gu a1) : Met l yX0_plausibleOf wsX0_plausibleOf rm_X0_plausibleOf (va_Pc [.ref g0, .int a1] (PW D [(cI, .int)] sz (W_X1 cI g0 g1 g2 g3 g4 gn gu gb ga))) (Q_X0_plausibleOf D cI g0 g1 g2 g3 g4 gn gu gb ga a1 (va_A (W_X1 cI g0 g1 g2 g3 g4 gn gu gb ga) sz)) 0 0 (va_A (W_X1 cI g0 g1 g2 g3 g4 gn gu gb ga) sz) := by
  refine Met.ofW (cc := cX0_plausibleOf) (maxL := 5) (ret := (some .int)) (by decide) rfl ?_
  intro p e s m args below meth c s₁ B hml hv
  obtain ⟨rfl, hsz, hP, hK, hD0, hN⟩ := hv
  have hx := B.exec
  have hb := B.bytes
  have hr := B.returns
  have hts := atoms_spec (ws := wsX0_plausibleOf) B.pre
  have hown : s.vm.findClass RX0 = some m.cls := findClass_of_methodNamed B.named
  have hlocks := B.notSynchronized
  subst hsz
  have hD := hD0.self (sz := s.heap.size)
  generalize hAe : va_A (W_X1 cI g0 g1 g2 g3 g4 gn gu gb ga) s.heap.size = A at hD ⊢
  have hA : ∀ q : Nat, s.heap.size ≤ q → A q := fun q h => by rw [← hAe]; exact Or.inr h
  have hS : va_S A s.heap s.heap [] := va_S.rf
  have hl := lv_entry ([.ref g0, .int a1]) (n := 5) (Nat.le_of_ble_eq_true rfl)
  rw [lg_entry_eq]
  generalize (lg_sl ([.ref g0, .int a1]) ++ List.replicate (5 - (lg_sl ([.ref g0, .int a1])).length) Slot.unset).toArray = ls at hl ⊢
  have hl : lv_has ls 5 [(0, .ref g0), (1, .int a1)] := hl
  have he := f_X0_plausibleOf.eq_1 gu a1
  replace hp := Eq.mp (p_X0_plausibleOf.eq_1 ..) hp
  refine lv_iload_n hx hb dX0_plausibleOf_0 rfl (lv_at hl 1 rfl) ?_
  refine lv_istore_n (lv' := [(2, .int a1), (0, .ref g0), (1, .int a1)]) hx hb dX0_plausibleOf_1 rfl hl (by decide) rfl (fun ls hl => ?_)
  refine lv_iconst (v := 0) hx hb dX0_plausibleOf_2 (by decide) ?_
  refine lv_istore_n (lv' := [(3, .int 0), (2, .int a1), (0, .ref g0), (1, .int a1)]) hx hb dX0_plausibleOf_3 rfl hl (by decide) rfl (fun ls hl => ?_)
  obtain ⟨⟨r1_v4_2, r1_v4_3⟩, hL1⟩ : ∃ z, z = f_X0_plausibleOf_L4 gu a1 15 a1 (0 : Int32) := ⟨_, rfl⟩
  rw [← hL1] at he
  try dsimp only at he
  have hpL1 := hp.1
  replace hp := hp.2 _ _ hL1.symm
  have kont1 : ∀ (x1_v4_2 : Int32) (x1_v4_3 : Int32), (r1_v4_2, r1_v4_3) = (x1_v4_2, x1_v4_3) → ∀ (H : Heap) (locs : List Loc), va_P D vwCl (W_X1 cI g0 g1 g2 g3 g4 gn gu gb ga) H → va_D A (W_X1 cI g0 g1 g2 g3 g4 gn gu gb ga) → va_S A s.heap H locs → ∀ ls : Array Slot, lv_has ls 5 [(2, .int x1_v4_2)] → W p l e (headSpec wsX0_plausibleOf rm_X0_plausibleOf).room s m ([.ref g0, .int a1] : List Value).toArray below meth c H locs 0 0 (MQ below (Q_X0_plausibleOf D cI g0 g1 g2 g3 g4 gn gu gb ga a1 A) ([.ref g0, .int a1] : List Value).toArray s 0 0 A) (F0 m 44 ls []) := by
    intro x1_v4_2 x1_v4_3 hxe H locs hP hD hS ls hl
    simp only [Prod.mk.injEq] at hxe
    obtain ⟨rfl, rfl⟩ := hxe
    refine lv_iload_n hx hb dX0_plausibleOf_44 rfl (lv_at hl 0 rfl) ?_
    exact W.iret (v := r1_v4_2) hx hb hr (fun t ht hW => ⟨⟨r1_v4_2, (), rfl, he, by rw [ht]; exact hP, va_K.moved hW.alike hK, hD⟩, hS.F ht⟩) hS.2.2 dX0_plausibleOf_45
  have loop1 : ∀ (n : Nat) (v4_2 : Int32) (v4_3 : Int32), p_X0_plausibleOf_L4 gu a1 n v4_2 v4_3 → (r1_v4_2, r1_v4_3) = f_X0_plausibleOf_L4 gu a1 n v4_2 v4_3 → ∀ (H : Heap) (locs : List Loc), va_P D vwCl (W_X1 cI g0 g1 g2 g3 g4 gn gu gb ga) H → va_D A (W_X1 cI g0 g1 g2 g3 g4 gn gu gb ga) → va_S A s.heap H locs → ∀ ls : Array Slot, lv_has ls 5 [(3, .int v4_3), (2, .int v4_2), (0, .ref g0), (1, .int a1)] → W p l e (headSpec wsX0_plausibleOf rm_X0_plausibleOf).room s m ([.ref g0, .int a1] : List Value).toArray below meth c H locs 0 0 (MQ below (Q_X0_plausibleOf D cI g0 g1 g2 g3 g4 gn gu gb ga a1 A) ([.ref g0, .int a1] : List Value).toArray s 0 0 A) (F0 m 4 ls []) := by
    intro n
    induction n with
    | zero => exact fun _ _ hp => hp.elim
    | succ n ih =>
      intro v4_2 v4_3 hp he H locs hP hD hS ls hl
      replace hp := Eq.mp (p_X0_plausibleOf_L4.eq_2 ..) hp
      replace he := he.trans (f_X0_plausibleOf_L4.eq_2 ..)
      refine lv_iload_n hx hb dX0_plausibleOf_4 rfl (lv_at hl 0 rfl) ?_
      refine lv_bipush (v := 14) hx hb dX0_plausibleOf_5 (by decide) ?_
      refine lv_icmp_ge (tgt := 44) hx hb dX0_plausibleOf_7 (by decide) (fun c2 => ?_) (fun c2 => ?_)
      · replace hp := hp.1 c2
        replace he := he.trans (if_pos c2)
        exact kont1 _ _ he _ _ hP hD hS _ (lv_sub hl [1] rfl)
      · replace hp := hp.2 c2
        replace he := he.trans (if_neg c2)
        refine lv_aload_n hx hb dX0_plausibleOf_10 rfl (lv_at hl 2 rfl) ?_
        refine lv_iload_n hx hb dX0_plausibleOf_11 rfl (lv_at hl 0 rfl) ?_
        have hq3 := hp.1
        replace hp := hp.2
        refine k_calli (S := Unit) (wc := (W_X1 cI g0 g1 g2 g3 g4 gn gu gb ga)) (wr := ([] : va_W)) (w1 := fun u => (W_X1 cI g0 g1 g2 g3 g4 gn gu gb ga)) (fun u => (W_X1 cI g0 g1 g2 g3 g4 gn gu gb ga)) hP hK hD hN hS hA [0, 1, 2, 3, 4] [] rfl rfl (by decide) (by decide) (by decide) [0, 1, 2, 3, 4] (by decide) (fun _ => rfl) (fun hg => va_runV (As := [.int v4_3]) (rest := []) ⟨hx, hb, hml, hown, hts⟩ (c_X1_users l D cI g0 g1 g2 g3 g4 gn gu gb ga _ v4_3 hq3) (cwV 1 hts gX0_plausibleOf_X1_users rfl rfl rfl (by decide +kernel) ⟨Nat.le_of_ble_eq_true rfl, Nat.le_of_ble_eq_true rfl⟩) ⟨PW.blind, va_recv hK hP (ci := 1) (q0 := 0) rfl rfl, fun U hU hW => ⟨rfl, hg U hU hW⟩⟩ rfl rfl hl.1 rfl (lv_room (Nat.le_of_ble_eq_true rfl)) dX0_plausibleOf_12 ⟨Nat.le_of_ble_eq_true rfl, Nat.le_of_ble_eq_true rfl⟩) (fun r3 u H locs hw hP hD hS => ?_)
        subst hw
        refine lv_istore (lv' := [(4, .int (f_X1_users gu v4_3)), (3, .int v4_3), (2, .int v4_2), (0, .ref g0), (1, .int a1)]) hx hb dX0_plausibleOf_15 hl (by decide) rfl (fun ls hl => ?_)
        refine lv_iload hx hb dX0_plausibleOf_17 (lv_at hl 0 rfl) ?_
        refine lv_if_eq (tgt := 38) hx hb dX0_plausibleOf_19 (by decide) (fun c4 => ?_) (fun c4 => ?_)
        · replace hp := hp.1 c4
          replace he := he.trans (if_pos c4)
          refine lv_iinc (v := (v4_3 + 1)) (lv' := [(3, .int (v4_3 + 1)), (4, .int (f_X1_users gu v4_3)), (2, .int v4_2), (0, .ref g0), (1, .int a1)]) hx hb dX0_plausibleOf_38 hl (k := 1) rfl rfl (by decide) rfl (fun ls hl => ?_)
          refine lv_goto (tgt := 4) hx hb dX0_plausibleOf_41 (by decide) ?_
          exact ih _ _ hp he _ _ hP hD hS _ (lv_sub hl [0, 2, 3, 4] rfl)
        · replace hp := hp.2 c4
          replace he := he.trans (if_neg c4)
          refine lv_iload hx hb dX0_plausibleOf_22 (lv_at hl 0 rfl) ?_
          refine lv_iload_n hx hb dX0_plausibleOf_24 rfl (lv_at hl 4 rfl) ?_
          refine lv_iconst (v := (-1)) hx hb dX0_plausibleOf_25 (by decide) ?_
          refine lv_ixor hx hb dX0_plausibleOf_26 ?_
          refine lv_iand hx hb dX0_plausibleOf_27 ?_
          refine lv_if_ne (tgt := 38) hx hb dX0_plausibleOf_28 (by decide) (fun c5 => ?_) (fun c5 => ?_)
          · replace hp := hp.2 c5
            replace he := he.trans (if_neg c5)
            refine lv_iinc (v := (v4_3 + 1)) (lv' := [(3, .int (v4_3 + 1)), (4, .int (f_X1_users gu v4_3)), (2, .int v4_2), (0, .ref g0), (1, .int a1)]) hx hb dX0_plausibleOf_38 hl (k := 1) rfl rfl (by decide) rfl (fun ls hl => ?_)
            refine lv_goto (tgt := 4) hx hb dX0_plausibleOf_41 (by decide) ?_
            exact ih _ _ hp he _ _ hP hD hS _ (lv_sub hl [0, 2, 3, 4] rfl)
          · replace hp := hp.1 c5
            replace he := he.trans (if_pos c5)
            refine lv_iload_n hx hb dX0_plausibleOf_31 rfl (lv_at hl 2 rfl) ?_
            refine lv_iload_n hx hb dX0_plausibleOf_32 rfl (lv_at hl 1 rfl) ?_
            refine k_calli (S := Unit) (wc := ([] : va_W)) (wr := (W_X1 cI g0 g1 g2 g3 g4 gn gu gb ga)) (w1 := fun u => ([] : va_W)) (fun u => (W_X1 cI g0 g1 g2 g3 g4 gn gu gb ga)) hP hK hD hN hS hA [] [0, 1, 2, 3, 4] rfl rfl (by decide) (by decide) (by decide) [0, 1, 2, 3, 4] (by decide) (fun _ => rfl) (fun hg => va_runSN (As := [.int v4_3]) (rest := [.int v4_2]) ⟨hx, hb, hml, hown, hts⟩ (c_X4_only l D cI _ v4_3) ⟨va_cnB 1 hts gX0_plausibleOf_X4_only_n62 rfl rfl rfl (hN.at 4 rfl) (hts (.initialized RX4) (by decide +kernel)) (by decide +kernel) ⟨Nat.le_of_ble_eq_true rfl, Nat.le_of_ble_eq_true rfl⟩, hts (.static yX4_only) (by decide +kernel), trivial⟩ ⟨PW.blind, fun U hU hW => ⟨rfl, hg U hU hW⟩⟩ rfl rfl hl.1 rfl (lv_room (Nat.le_of_ble_eq_true rfl)) dX0_plausibleOf_33 ⟨Nat.le_of_ble_eq_true rfl, Nat.le_of_ble_eq_true rfl⟩) (fun r6 u H locs hw hP hD hS => ?_)
            subst hw
            refine lv_ior hx hb dX0_plausibleOf_36 ?_
            refine lv_istore_n (lv' := [(2, .int (v4_2 ||| (f_X4_only v4_3))), (4, .int (f_X1_users gu v4_3)), (3, .int v4_3), (0, .ref g0), (1, .int a1)]) hx hb dX0_plausibleOf_37 rfl hl (by decide) rfl (fun ls hl => ?_)
            refine lv_iinc (v := (v4_3 + 1)) (lv' := [(3, .int (v4_3 + 1)), (2, .int (v4_2 ||| (f_X4_only v4_3))), (4, .int (f_X1_users gu v4_3)), (0, .ref g0), (1, .int a1)]) hx hb dX0_plausibleOf_38 hl (k := 2) rfl rfl (by decide) rfl (fun ls hl => ?_)
            refine lv_goto (tgt := 4) hx hb dX0_plausibleOf_41 (by decide) ?_
            exact ih _ _ hp he _ _ hP hD hS _ (lv_sub hl [0, 1, 3, 4] rfl)
  exact loop1 15 a1 (0 : Int32) hpL1 hL1 _ _ hP hD hS _ (lv_sub hl [0, 1, 2, 3] rfl)
abbrev rm_X0_init : Room := { frames := 2, cells := 0, slots := 0, locals := 45 }
abbrev Q_X0_init (D : va_G) (cI : ClassId) (d0 g0 g1 g2 g3 g4 : Nat) (gn : AA) (gu : AA) (gb : AA) (ga : AA) (a2 : Int32) (A : Nat → Prop) : Array Value → State → Outcome → State → Prop := va_Qv (S := Int32 × Int32) (fun u => f_X0_init gu a2 = u) (fun u t => QW D [(cI, .int)] A (W_X0 cI d0 g0 g1 g2 g3 g4 u.1 u.2 gn gu gb ga) t) A
set_option maxHeartbeats 4000000 in
set_option maxRecDepth 100000 in
theorem c_X0_init (l : Launch)  (D : va_G) (cI : ClassId) (d0 g0 g1 g2 g3 g4 : Nat) (gn : AA) (gu : AA) (gb : AA) (ga : AA) (sz : Nat) (a2 : Int32) (hp : p_X0_init gu a2) : Met l yX0_init wsX0_init rm_X0_init (va_Pc [.ref d0, .ref g0, .int a2] (PW D [(cI, .int)] sz ([(d0, .inr (0, [.null, .int 0, .int 0]))] ++ (W_X1 cI g0 g1 g2 g3 g4 gn gu gb ga)))) (Q_X0_init D cI d0 g0 g1 g2 g3 g4 gn gu gb ga a2 (va_A ([(d0, .inr (0, [.null, .int 0, .int 0]))] ++ (W_X1 cI g0 g1 g2 g3 g4 gn gu gb ga)) sz)) 0 0 (va_A ([(d0, .inr (0, [.null, .int 0, .int 0]))] ++ (W_X1 cI g0 g1 g2 g3 g4 gn gu gb ga)) sz) := by
  refine Met.ofW (cc := cX0_init) (maxL := 3) (ret := none) (by decide) rfl ?_
  intro p e s m args below meth c s₁ B hml hv
  obtain ⟨rfl, hsz, hP, hK, hD0, hN⟩ := hv
  have hx := B.exec
  have hb := B.bytes
  have hr := B.returns
  have hts := atoms_spec (ws := wsX0_init) B.pre
  have hown : s.vm.findClass RX0 = some m.cls := findClass_of_methodNamed B.named
  have hlocks := B.notSynchronized
  have hin : meth.name = "<init>" := (name_of_methodNamed B.named B.method).1
  subst hsz
  have hD := hD0.self (sz := s.heap.size)
  generalize hAe : va_A ([(d0, .inr (0, [.null, .int 0, .int 0]))] ++ (W_X1 cI g0 g1 g2 g3 g4 gn gu gb ga)) s.heap.size = A at hD ⊢
  have hA : ∀ q : Nat, s.heap.size ≤ q → A q := fun q h => by rw [← hAe]; exact Or.inr h
  have hS : va_S A s.heap s.heap [] := va_S.rf
  have hl := lv_entry ([.ref d0, .ref g0, .int a2]) (n := 3) (Nat.le_of_ble_eq_true rfl)
  rw [lg_entry_eq]
  generalize (lg_sl ([.ref d0, .ref g0, .int a2]) ++ List.replicate (3 - (lg_sl ([.ref d0, .ref g0, .int a2])).length) Slot.unset).toArray = ls at hl ⊢
  have hl : lv_has ls 3 [(0, .ref d0), (1, .ref g0), (2, .int a2)] := hl
  have he := f_X0_init.eq_1 gu a2
  replace hp := Eq.mp (p_X0_init.eq_1 ..) hp
  refine lv_aload_n hx hb dX0_init_0 rfl (lv_at hl 0 rfl) ?_
  refine W.objInit hx hb hown (hts (.methodLink RX0 3 objectInit) (by decide +kernel)) (hts (.instanceMethod objectInit) (by decide +kernel)) (hts (.code objectInit ⟨#[0xb1]⟩ 1 none) (by decide +kernel)) rfl (by rw [hml]; exact hl.1) rfl dX0_init_1 (Nat.le_of_ble_eq_true rfl) (Nat.le_of_ble_eq_true rfl) ?_
  refine W.eq (g2 := F0 m 4 ls []) rfl ?_
  refine lv_aload_n hx hb dX0_init_4 rfl (lv_at hl 0 rfl) ?_
  refine lv_aload_n hx hb dX0_init_5 rfl (lv_at hl 1 rfl) ?_
  refine va_putF (D := D) (ci := 0) (v := .ref g0) (ty := (.object "Alarmgrove$Graph")) (C := RX0) (T := TX0) (N := 3) hx hb hts (by decide +kernel) tyX0 tyX0_ok nmX0 hown hK hP hD hS 0 rfl rfl 0 (by decide) (hts (.fieldLink RX0 9 "Alarmgrove$Diagnoser" "graph" "LAlarmgrove$Graph;") (by decide +kernel)) (fun _ h9 => h9) rfl hin rfl (by decide +kernel) rfl rfl (Nat.le_of_ble_eq_true rfl) dX0_init_6 (fun H locs hP hD hS => ?_)
  have hP : va_P D vwCl (W_X0 cI d0 g0 g1 g2 g3 g4 0 0 gn gu gb ga) H := hP
  have hD : va_D A (W_X0 cI d0 g0 g1 g2 g3 g4 0 0 gn gu gb ga) := hD
  refine lv_aload_n hx hb dX0_init_9 rfl (lv_at hl 0 rfl) ?_
  refine lv_iload_n hx hb dX0_init_10 rfl (lv_at hl 2 rfl) ?_
  refine va_putF (D := D) (ci := 0) (v := .int a2) (ty := .int) (C := RX0) (T := TX0) (N := 3) hx hb hts (by decide +kernel) tyX0 tyX0_ok nmX0 hown hK hP hD hS 0 rfl rfl 1 (by decide) (hts (.fieldLink RX0 15 "Alarmgrove$Diagnoser" "raised" "I") (by decide +kernel)) (fun _ h9 => h9) rfl hin rfl (by decide +kernel) rfl rfl (Nat.le_of_ble_eq_true rfl) dX0_init_11 (fun H locs hP hD hS => ?_)
  have hP : va_P D vwCl (W_X0 cI d0 g0 g1 g2 g3 g4 a2 0 gn gu gb ga) H := hP
  have hD : va_D A (W_X0 cI d0 g0 g1 g2 g3 g4 a2 0 gn gu gb ga) := hD
  refine lv_aload_n hx hb dX0_init_14 rfl (lv_at hl 0 rfl) ?_
  refine lv_aload_n hx hb dX0_init_15 rfl (lv_at hl 1 rfl) ?_
  refine lv_iload_n hx hb dX0_init_16 rfl (lv_at hl 2 rfl) ?_
  have hq1 := hp.1
  replace hp := hp.2
  refine k_calli (S := Unit) (wc := (W_X1 cI g0 g1 g2 g3 g4 gn gu gb ga)) (wr := [(d0, .inr (0, [.ref g0, .int a2, .int 0]))]) (w1 := fun u => (W_X1 cI g0 g1 g2 g3 g4 gn gu gb ga)) (fun u => (W_X0 cI d0 g0 g1 g2 g3 g4 a2 0 gn gu gb ga)) hP hK hD hN hS hA [1, 2, 3, 4, 5] [0] rfl rfl (by decide) (by decide) (by decide) [0, 1, 2, 3, 4, 5] (by decide) (fun _ => rfl) (fun hg => va_runS (As := [.ref g0, .int a2]) (rest := [.ref d0]) ⟨hx, hb, hml, hown, hts⟩ (c_X0_plausibleOf l D cI g0 g1 g2 g3 g4 gn gu gb ga _ a2 hq1) (va_cwS 2 hts gX0_init_X0_plausibleOf rfl rfl rfl (by decide +kernel) ⟨Nat.le_of_ble_eq_true rfl, Nat.le_of_ble_eq_true rfl⟩) ⟨PW.blind, fun U hU hW => ⟨rfl, hg U hU hW⟩⟩ rfl rfl hl.1 rfl (lv_room (Nat.le_of_ble_eq_true rfl)) dX0_init_17 ⟨Nat.le_of_ble_eq_true rfl, Nat.le_of_ble_eq_true rfl⟩) (fun r1 u H locs hw hP hD hS => ?_)
  subst hw
  refine va_putF (D := D) (ci := 0) (v := .int (f_X0_plausibleOf gu a2)) (ty := .int) (C := RX0) (T := TX0) (N := 3) hx hb hts (by decide +kernel) tyX0 tyX0_ok nmX0 hown hK hP hD hS 0 rfl rfl 2 (by decide) (hts (.fieldLink RX0 23 "Alarmgrove$Diagnoser" "plausible" "I") (by decide +kernel)) (fun _ h9 => h9) rfl hin rfl (by decide +kernel) rfl rfl (Nat.le_of_ble_eq_true rfl) dX0_init_20 (fun H locs hP hD hS => ?_)
  have hP : va_P D vwCl (W_X0 cI d0 g0 g1 g2 g3 g4 a2 (f_X0_plausibleOf gu a2) gn gu gb ga) H := hP
  have hD : va_D A (W_X0 cI d0 g0 g1 g2 g3 g4 a2 (f_X0_plausibleOf gu a2) gn gu gb ga) := hD
  exact W.vret hx hb hr (fun t ht hW => ⟨⟨(a2, (f_X0_plausibleOf gu a2)), rfl, he, by rw [ht]; exact hP, va_K.moved hW.alike hK, hD⟩, hS.F ht⟩) hS.2.2 dX0_init_23
abbrev rm_X0_plausibleNodes : Room := { frames := 0, cells := 0, slots := 0, locals := 0 }
abbrev Q_X0_plausibleNodes (D : va_G) (cI : ClassId) (d0 g0 g1 g2 g3 g4 : Nat) (dr : Int32) (dp : Int32) (gn : AA) (gu : AA) (gb : AA) (ga : AA) (A : Nat → Prop) : Array Value → State → Outcome → State → Prop := va_Qi (S := Unit) (fun r u => f_X0_plausibleNodes dp = r) (fun u t => QW D [(cI, .int)] A (W_X0 cI d0 g0 g1 g2 g3 g4 dr dp gn gu gb ga) t) A
set_option maxHeartbeats 4000000 in
set_option maxRecDepth 100000 in
theorem c_X0_plausibleNodes (l : Launch)  (D : va_G) (cI : ClassId) (d0 g0 g1 g2 g3 g4 : Nat) (dr : Int32) (dp : Int32) (gn : AA) (gu : AA) (gb : AA) (ga : AA) (sz : Nat) : Met l yX0_plausibleNodes wsX0_plausibleNodes rm_X0_plausibleNodes (va_Pc [.ref d0] (PW D [(cI, .int)] sz (W_X0 cI d0 g0 g1 g2 g3 g4 dr dp gn gu gb ga))) (Q_X0_plausibleNodes D cI d0 g0 g1 g2 g3 g4 dr dp gn gu gb ga (va_A (W_X0 cI d0 g0 g1 g2 g3 g4 dr dp gn gu gb ga) sz)) 0 0 (va_A (W_X0 cI d0 g0 g1 g2 g3 g4 dr dp gn gu gb ga) sz) := by
  refine Met.ofW (cc := cX0_plausibleNodes) (maxL := 1) (ret := (some .int)) (by decide) rfl ?_
  intro p e s m args below meth c s₁ B hml hv
  obtain ⟨rfl, hsz, hP, hK, hD0, hN⟩ := hv
  have hx := B.exec
  have hb := B.bytes
  have hr := B.returns
  have hts := atoms_spec (ws := wsX0_plausibleNodes) B.pre
  have hown : s.vm.findClass RX0 = some m.cls := findClass_of_methodNamed B.named
  have hlocks := B.notSynchronized
  subst hsz
  have hD := hD0.self (sz := s.heap.size)
  generalize hAe : va_A (W_X0 cI d0 g0 g1 g2 g3 g4 dr dp gn gu gb ga) s.heap.size = A at hD ⊢
  have hA : ∀ q : Nat, s.heap.size ≤ q → A q := fun q h => by rw [← hAe]; exact Or.inr h
  have hS : va_S A s.heap s.heap [] := va_S.rf
  have hl := lv_entry ([.ref d0]) (n := 1) (Nat.le_of_ble_eq_true rfl)
  rw [lg_entry_eq]
  generalize (lg_sl ([.ref d0]) ++ List.replicate (1 - (lg_sl ([.ref d0])).length) Slot.unset).toArray = ls at hl ⊢
  have hl : lv_has ls 1 [(0, .ref d0)] := hl
  have he := f_X0_plausibleNodes.eq_1 dp
  refine lv_aload_n hx hb dX0_plausibleNodes_0 rfl (lv_at hl 0 rfl) ?_
  refine va_get (D := D) (ci := 0) (v := .int dp) (C := RX0) (T := TX0) (N := 3) hx hb hts (by decide +kernel) hown hK hP 0 rfl rfl 2 (by decide) (hts (.fieldLink RX0 23 "Alarmgrove$Diagnoser" "plausible" "I") (by decide +kernel)) (fun _ h9 => h9) rfl dX0_plausibleNodes_1 ?_
  exact W.iret (v := dp) hx hb hr (fun t ht hW => ⟨⟨dp, (), rfl, he, by rw [ht]; exact hP, va_K.moved hW.alike hK, hD⟩, hS.F ht⟩) hS.2.2 dX0_plausibleNodes_4
abbrev rm_X0_isBetter : Room := { frames := 3, cells := 0, slots := 0, locals := 64 }
abbrev Q_X0_isBetter (D : va_G) (cI : ClassId) (d0 g0 g1 g2 g3 g4 : Nat) (dr : Int32) (dp : Int32) (gn : AA) (gu : AA) (gb : AA) (ga : AA) (a1 a2 : Int32) (A : Nat → Prop) : Array Value → State → Outcome → State → Prop := va_Qi (S := Unit) (fun r u => f_X0_isBetter dr a1 a2 = r ∧ (r = 0 ∨ r = 1)) (fun u t => QW D [(cI, .int)] A (W_X0 cI d0 g0 g1 g2 g3 g4 dr dp gn gu gb ga) t) A
set_option maxHeartbeats 4000000 in
set_option maxRecDepth 100000 in
theorem c_X0_isBetter (l : Launch)  (D : va_G) (cI : ClassId) (d0 g0 g1 g2 g3 g4 : Nat) (dr : Int32) (dp : Int32) (gn : AA) (gu : AA) (gb : AA) (ga : AA) (sz : Nat) (a1 a2 : Int32) (hp : p_X0_isBetter dr a1 a2) : Met l yX0_isBetter wsX0_isBetter rm_X0_isBetter (va_Pc [.ref d0, .int a1, .int a2] (PW D [(cI, .int)] sz (W_X0 cI d0 g0 g1 g2 g3 g4 dr dp gn gu gb ga))) (Q_X0_isBetter D cI d0 g0 g1 g2 g3 g4 dr dp gn gu gb ga a1 a2 (va_A (W_X0 cI d0 g0 g1 g2 g3 g4 dr dp gn gu gb ga) sz)) 0 0 (va_A (W_X0 cI d0 g0 g1 g2 g3 g4 dr dp gn gu gb ga) sz) := by
  refine Met.ofW (cc := cX0_isBetter) (maxL := 8) (ret := (some .boolean)) (by decide) rfl ?_
  intro p e s m args below meth c s₁ B hml hv
  obtain ⟨rfl, hsz, hP, hK, hD0, hN⟩ := hv
  have hx := B.exec
  have hb := B.bytes
  have hr := B.returns
  have hts := atoms_spec (ws := wsX0_isBetter) B.pre
  have hown : s.vm.findClass RX0 = some m.cls := findClass_of_methodNamed B.named
  have hlocks := B.notSynchronized
  subst hsz
  have hD := hD0.self (sz := s.heap.size)
  generalize hAe : va_A (W_X0 cI d0 g0 g1 g2 g3 g4 dr dp gn gu gb ga) s.heap.size = A at hD ⊢
  have hA : ∀ q : Nat, s.heap.size ≤ q → A q := fun q h => by rw [← hAe]; exact Or.inr h
  have hS : va_S A s.heap s.heap [] := va_S.rf
  have hl := lv_entry ([.ref d0, .int a1, .int a2]) (n := 8) (Nat.le_of_ble_eq_true rfl)
  rw [lg_entry_eq]
  generalize (lg_sl ([.ref d0, .int a1, .int a2]) ++ List.replicate (8 - (lg_sl ([.ref d0, .int a1, .int a2])).length) Slot.unset).toArray = ls at hl ⊢
  have hl : lv_has ls 8 [(0, .ref d0), (1, .int a1), (2, .int a2)] := hl
  have he := f_X0_isBetter.eq_1 dr a1 a2
  replace hp := Eq.mp (p_X0_isBetter.eq_1 ..) hp
  refine lv_iload_n hx hb dX0_isBetter_0 rfl (lv_at hl 1 rfl) ?_
  refine k_calli (S := Unit) (wc := ([] : va_W)) (wr := (W_X0 cI d0 g0 g1 g2 g3 g4 dr dp gn gu gb ga)) (w1 := fun u => ([] : va_W)) (fun u => (W_X0 cI d0 g0 g1 g2 g3 g4 dr dp gn gu gb ga)) hP hK hD hN hS hA [] [0, 1, 2, 3, 4, 5] rfl rfl (by decide) (by decide) (by decide) [0, 1, 2, 3, 4, 5] (by decide) (fun _ => rfl) (fun hg => va_runS (As := [.int a1]) (rest := []) ⟨hx, hb, hml, hown, hts⟩ (c_J6_bitCount_0f7a4 l D cI _ a1) (va_cwS 1 hts gX0_isBetter_J6_bitCount_0f7a4 rfl rfl rfl (by decide +kernel) ⟨Nat.le_of_ble_eq_true rfl, Nat.le_of_ble_eq_true rfl⟩) ⟨PW.blind, fun U hU hW => ⟨rfl, hg U hU hW⟩⟩ rfl rfl hl.1 rfl (lv_room (Nat.le_of_ble_eq_true rfl)) dX0_isBetter_1 ⟨Nat.le_of_ble_eq_true rfl, Nat.le_of_ble_eq_true rfl⟩) (fun r1 u H locs hw hP hD hS => ?_)
  subst hw
  refine lv_istore_n (lv' := [(3, .int (f_J6_bitCount_0f7a4 a1)), (0, .ref d0), (1, .int a1), (2, .int a2)]) hx hb dX0_isBetter_4 rfl hl (by decide) rfl (fun ls hl => ?_)
  refine lv_iload_n hx hb dX0_isBetter_5 rfl (lv_at hl 3 rfl) ?_
  refine k_calli (S := Unit) (wc := ([] : va_W)) (wr := (W_X0 cI d0 g0 g1 g2 g3 g4 dr dp gn gu gb ga)) (w1 := fun u => ([] : va_W)) (fun u => (W_X0 cI d0 g0 g1 g2 g3 g4 dr dp gn gu gb ga)) hP hK hD hN hS hA [] [0, 1, 2, 3, 4, 5] rfl rfl (by decide) (by decide) (by decide) [0, 1, 2, 3, 4, 5] (by decide) (fun _ => rfl) (fun hg => va_runS (As := [.int a2]) (rest := []) ⟨hx, hb, hml, hown, hts⟩ (c_J6_bitCount_0f7a4 l D cI _ a2) (va_cwS 1 hts gX0_isBetter_J6_bitCount_0f7a4 rfl rfl rfl (by decide +kernel) ⟨Nat.le_of_ble_eq_true rfl, Nat.le_of_ble_eq_true rfl⟩) ⟨PW.blind, fun U hU hW => ⟨rfl, hg U hU hW⟩⟩ rfl rfl hl.1 rfl (lv_room (Nat.le_of_ble_eq_true rfl)) dX0_isBetter_6 ⟨Nat.le_of_ble_eq_true rfl, Nat.le_of_ble_eq_true rfl⟩) (fun r2 u H locs hw hP hD hS => ?_)
  subst hw
  refine lv_istore (lv' := [(4, .int (f_J6_bitCount_0f7a4 a2)), (3, .int (f_J6_bitCount_0f7a4 a1)), (0, .ref d0), (1, .int a1), (2, .int a2)]) hx hb dX0_isBetter_9 hl (by decide) rfl (fun ls hl => ?_)
  refine lv_iload_n hx hb dX0_isBetter_11 rfl (lv_at hl 1 rfl) ?_
  refine lv_iload hx hb dX0_isBetter_12 (lv_at hl 0 rfl) ?_
  refine lv_icmp_eq (tgt := 29) hx hb dX0_isBetter_14 (by decide) (fun c3 => ?_) (fun c3 => ?_)
  · replace hp := hp.1 c3
    replace he := he.trans (if_pos c3)
    refine lv_iload_n hx hb dX0_isBetter_29 rfl (lv_at hl 3 rfl) ?_
    refine lv_aload_n hx hb dX0_isBetter_30 rfl (lv_at hl 2 rfl) ?_
    refine va_get (D := D) (ci := 0) (v := .int dr) (C := RX0) (T := TX0) (N := 3) hx hb hts (by decide +kernel) hown hK hP 0 rfl rfl 1 (by decide) (hts (.fieldLink RX0 15 "Alarmgrove$Diagnoser" "raised" "I") (by decide +kernel)) (fun _ h9 => h9) rfl dX0_isBetter_31 ?_
    refine lv_iand hx hb dX0_isBetter_34 ?_
    refine k_calli (S := Unit) (wc := ([] : va_W)) (wr := (W_X0 cI d0 g0 g1 g2 g3 g4 dr dp gn gu gb ga)) (w1 := fun u => ([] : va_W)) (fun u => (W_X0 cI d0 g0 g1 g2 g3 g4 dr dp gn gu gb ga)) hP hK hD hN hS hA [] [0, 1, 2, 3, 4, 5] rfl rfl (by decide) (by decide) (by decide) [0, 1, 2, 3, 4, 5] (by decide) (fun _ => rfl) (fun hg => va_runS (As := [.int (a1 &&& dr)]) (rest := []) ⟨hx, hb, hml, hown, hts⟩ (c_J6_bitCount_0f7a4 l D cI _ (a1 &&& dr)) (va_cwS 1 hts gX0_isBetter_J6_bitCount_0f7a4 rfl rfl rfl (by decide +kernel) ⟨Nat.le_of_ble_eq_true rfl, Nat.le_of_ble_eq_true rfl⟩) ⟨PW.blind, fun U hU hW => ⟨rfl, hg U hU hW⟩⟩ rfl rfl hl.1 rfl (lv_room (Nat.le_of_ble_eq_true rfl)) dX0_isBetter_35 ⟨Nat.le_of_ble_eq_true rfl, Nat.le_of_ble_eq_true rfl⟩) (fun r4 u H locs hw hP hD hS => ?_)
    subst hw
    refine lv_istore (lv' := [(5, .int (f_J6_bitCount_0f7a4 (a1 &&& dr))), (4, .int (f_J6_bitCount_0f7a4 a2)), (3, .int (f_J6_bitCount_0f7a4 a1)), (0, .ref d0), (1, .int a1), (2, .int a2)]) hx hb dX0_isBetter_38 hl (by decide) rfl (fun ls hl => ?_)
    refine lv_iload_n hx hb dX0_isBetter_40 rfl (lv_at hl 5 rfl) ?_
    refine lv_aload_n hx hb dX0_isBetter_41 rfl (lv_at hl 3 rfl) ?_
    refine va_get (D := D) (ci := 0) (v := .int dr) (C := RX0) (T := TX0) (N := 3) hx hb hts (by decide +kernel) hown hK hP 0 rfl rfl 1 (by decide) (hts (.fieldLink RX0 15 "Alarmgrove$Diagnoser" "raised" "I") (by decide +kernel)) (fun _ h9 => h9) rfl dX0_isBetter_42 ?_
    refine lv_iand hx hb dX0_isBetter_45 ?_
    refine k_calli (S := Unit) (wc := ([] : va_W)) (wr := (W_X0 cI d0 g0 g1 g2 g3 g4 dr dp gn gu gb ga)) (w1 := fun u => ([] : va_W)) (fun u => (W_X0 cI d0 g0 g1 g2 g3 g4 dr dp gn gu gb ga)) hP hK hD hN hS hA [] [0, 1, 2, 3, 4, 5] rfl rfl (by decide) (by decide) (by decide) [0, 1, 2, 3, 4, 5] (by decide) (fun _ => rfl) (fun hg => va_runS (As := [.int (a2 &&& dr)]) (rest := []) ⟨hx, hb, hml, hown, hts⟩ (c_J6_bitCount_0f7a4 l D cI _ (a2 &&& dr)) (va_cwS 1 hts gX0_isBetter_J6_bitCount_0f7a4 rfl rfl rfl (by decide +kernel) ⟨Nat.le_of_ble_eq_true rfl, Nat.le_of_ble_eq_true rfl⟩) ⟨PW.blind, fun U hU hW => ⟨rfl, hg U hU hW⟩⟩ rfl rfl hl.1 rfl (lv_room (Nat.le_of_ble_eq_true rfl)) dX0_isBetter_46 ⟨Nat.le_of_ble_eq_true rfl, Nat.le_of_ble_eq_true rfl⟩) (fun r5 u H locs hw hP hD hS => ?_)
    subst hw
    refine lv_istore (lv' := [(6, .int (f_J6_bitCount_0f7a4 (a2 &&& dr))), (5, .int (f_J6_bitCount_0f7a4 (a1 &&& dr))), (4, .int (f_J6_bitCount_0f7a4 a2)), (3, .int (f_J6_bitCount_0f7a4 a1)), (0, .ref d0), (1, .int a1), (2, .int a2)]) hx hb dX0_isBetter_49 hl (by decide) rfl (fun ls hl => ?_)
    refine lv_iload hx hb dX0_isBetter_51 (lv_at hl 1 rfl) ?_
    refine lv_iload hx hb dX0_isBetter_53 (lv_at hl 0 rfl) ?_
    refine lv_icmp_eq (tgt := 71) hx hb dX0_isBetter_55 (by decide) (fun c6 => ?_) (fun c6 => ?_)
    · replace hp := hp.1 c6
      replace he := he.trans (if_pos c6)
      refine lv_iload_n hx hb dX0_isBetter_71 rfl (lv_at hl 5 rfl) ?_
      refine lv_iload_n hx hb dX0_isBetter_72 rfl (lv_at hl 6 rfl) ?_
      refine lv_ixor hx hb dX0_isBetter_73 ?_
      refine lv_iconst (v := 0) hx hb dX0_isBetter_74 (by decide) ?_
      have hq7 := hp.1
      replace hp := hp.2
      refine k_calli (S := Unit) (wc := ([] : va_W)) (wr := (W_X0 cI d0 g0 g1 g2 g3 g4 dr dp gn gu gb ga)) (w1 := fun u => ([] : va_W)) (fun u => (W_X0 cI d0 g0 g1 g2 g3 g4 dr dp gn gu gb ga)) hP hK hD hN hS hA [] [0, 1, 2, 3, 4, 5] rfl rfl (by decide) (by decide) (by decide) [0, 1, 2, 3, 4, 5] (by decide) (fun _ => rfl) (fun hg => va_runSN (As := [.int (a1 ^^^ a2), .int 0]) (rest := []) ⟨hx, hb, hml, hown, hts⟩ (c_X4_nodeAtPlace l D cI _ (a1 ^^^ a2) 0 hq7) ⟨va_cnB 2 hts gX0_isBetter_X4_nodeAtPlace_n55 rfl rfl rfl (hN.at 3 rfl) (hts (.initialized RX4) (by decide +kernel)) (by decide +kernel) ⟨Nat.le_of_ble_eq_true rfl, Nat.le_of_ble_eq_true rfl⟩, hts (.static yX4_nodeAtPlace) (by decide +kernel), trivial⟩ ⟨PW.blind, fun U hU hW => ⟨rfl, hg U hU hW⟩⟩ rfl rfl hl.1 rfl (lv_room (Nat.le_of_ble_eq_true rfl)) dX0_isBetter_75 ⟨Nat.le_of_ble_eq_true rfl, Nat.le_of_ble_eq_true rfl⟩) (fun r7 u H locs hw hP hD hS => ?_)
      subst hw
      refine lv_istore (lv' := [(7, .int (f_X4_nodeAtPlace (a1 ^^^ a2) (0 : Int32))), (6, .int (f_J6_bitCount_0f7a4 (a2 &&& dr))), (5, .int (f_J6_bitCount_0f7a4 (a1 &&& dr))), (4, .int (f_J6_bitCount_0f7a4 a2)), (3, .int (f_J6_bitCount_0f7a4 a1)), (0, .ref d0), (1, .int a1), (2, .int a2)]) hx hb dX0_isBetter_78 hl (by decide) rfl (fun ls hl => ?_)
      refine lv_iload hx hb dX0_isBetter_80 (lv_at hl 0 rfl) ?_
      refine lv_iconst (v := (-1)) hx hb dX0_isBetter_82 (by decide) ?_
      obtain ⟨j8, hJ8⟩ : ∃ z : Int32, z = (if (f_X4_nodeAtPlace (a1 ^^^ a2) (0 : Int32)) = (-1) then (0 : Int32) else (if (f_X4_has a1 (f_X4_nodeAtPlace (a1 ^^^ a2) (0 : Int32))) = 0 then (0 : Int32) else (1 : Int32))) := ⟨_, rfl⟩
      rw [← hJ8] at he
      try dsimp only at he
      have hpJ8 := hp.1
      replace hp := hp.2 _  hJ8.symm
      have kont8 : (j8 = 0 ∨ j8 = 1) → ∀ (H : Heap) (locs : List Loc), va_P D vwCl (W_X0 cI d0 g0 g1 g2 g3 g4 dr dp gn gu gb ga) H → va_D A (W_X0 cI d0 g0 g1 g2 g3 g4 dr dp gn gu gb ga) → va_S A s.heap H locs → ∀ ls : Array Slot, lv_has ls 8 [] → W p l e (headSpec wsX0_isBetter rm_X0_isBetter).room s m ([.ref d0, .int a1, .int a2] : List Value).toArray below meth c H locs 0 0 (MQ below (Q_X0_isBetter D cI d0 g0 g1 g2 g3 g4 dr dp gn gu gb ga a1 a2 A) ([.ref d0, .int a1, .int a2] : List Value).toArray s 0 0 A) (F0 m 100 ls [.int j8]) := by
        intro hb8 H locs hP hD hS ls hl
        exact W.zret (ty := .boolean) (v := j8) hx hb hr (by rcases hb8 with h9 | h9 <;> rw [h9] <;> rfl) (fun t ht hW => ⟨⟨j8, (), rfl, ⟨he, hb8⟩, by rw [ht]; exact hP, va_K.moved hW.alike hK, hD⟩, hS.F ht⟩) hS.2.2 dX0_isBetter_100
      replace he := hJ8
      replace hp := hpJ8
      refine lv_icmp_eq (tgt := 99) hx hb dX0_isBetter_83 (by decide) (fun c9 => ?_) (fun c9 => ?_)
      · replace hp := hp.1 c9
        replace he := he.trans (if_pos c9)
        refine lv_iconst (v := 0) hx hb dX0_isBetter_99 (by decide) ?_
        subst he
        exact kont8 (Or.inl rfl) _ _ hP hD hS _ (lv_sub hl [] rfl)
      · replace hp := hp.2 c9
        replace he := he.trans (if_neg c9)
        refine lv_iload_n hx hb dX0_isBetter_86 rfl (lv_at hl 6 rfl) ?_
        refine lv_iload hx hb dX0_isBetter_87 (lv_at hl 0 rfl) ?_
        refine k_calli (S := Unit) (wc := ([] : va_W)) (wr := (W_X0 cI d0 g0 g1 g2 g3 g4 dr dp gn gu gb ga)) (w1 := fun u => ([] : va_W)) (fun u => (W_X0 cI d0 g0 g1 g2 g3 g4 dr dp gn gu gb ga)) hP hK hD hN hS hA [] [0, 1, 2, 3, 4, 5] rfl rfl (by decide) (by decide) (by decide) [0, 1, 2, 3, 4, 5] (by decide) (fun _ => rfl) (fun hg => va_runSN (As := [.int a1, .int (f_X4_nodeAtPlace (a1 ^^^ a2) (0 : Int32))]) (rest := []) ⟨hx, hb, hml, hown, hts⟩ (c_X4_has l D cI _ a1 (f_X4_nodeAtPlace (a1 ^^^ a2) (0 : Int32))) ⟨va_cnB 2 hts gX0_isBetter_X4_has_n52 rfl rfl rfl (hN.at 2 rfl) (hts (.initialized RX4) (by decide +kernel)) (by decide +kernel) ⟨Nat.le_of_ble_eq_true rfl, Nat.le_of_ble_eq_true rfl⟩, hts (.static yX4_has) (by decide +kernel), trivial⟩ ⟨PW.blind, fun U hU hW => ⟨rfl, hg U hU hW⟩⟩ rfl rfl hl.1 rfl (lv_room (Nat.le_of_ble_eq_true rfl)) dX0_isBetter_89 ⟨Nat.le_of_ble_eq_true rfl, Nat.le_of_ble_eq_true rfl⟩) (fun r10 u H locs hw hP hD hS => ?_)
        obtain ⟨hw, hb10⟩ := hw
        subst hw
        refine lv_if_eq (tgt := 99) hx hb dX0_isBetter_92 (by decide) (fun c11 => ?_) (fun c11 => ?_)
        · replace hp := hp.1 c11
          replace he := he.trans (if_pos c11)
          refine lv_iconst (v := 0) hx hb dX0_isBetter_99 (by decide) ?_
          subst he
          exact kont8 (Or.inl rfl) _ _ hP hD hS _ (lv_sub hl [] rfl)
        · replace hp := hp.2 c11
          replace he := he.trans (if_neg c11)
          refine lv_iconst (v := 1) hx hb dX0_isBetter_95 (by decide) ?_
          refine lv_goto (tgt := 100) hx hb dX0_isBetter_96 (by decide) ?_
          subst he
          exact kont8 (Or.inr rfl) _ _ hP hD hS _ (lv_sub hl [] rfl)
    · replace hp := hp.2 c6
      replace he := he.trans (if_neg c6)
      refine lv_iload hx hb dX0_isBetter_58 (lv_at hl 1 rfl) ?_
      refine lv_iload hx hb dX0_isBetter_60 (lv_at hl 0 rfl) ?_
      obtain ⟨j12, hJ12⟩ : ∃ z : Int32, z = (if (f_J6_bitCount_0f7a4 (a1 &&& dr)) ≤ (f_J6_bitCount_0f7a4 (a2 &&& dr)) then (0 : Int32) else (1 : Int32)) := ⟨_, rfl⟩
      rw [← hJ12] at he
      try dsimp only at he
      have hpJ12 := hp.1
      replace hp := hp.2 _  hJ12.symm
      have kont12 : (j12 = 0 ∨ j12 = 1) → ∀ (H : Heap) (locs : List Loc), va_P D vwCl (W_X0 cI d0 g0 g1 g2 g3 g4 dr dp gn gu gb ga) H → va_D A (W_X0 cI d0 g0 g1 g2 g3 g4 dr dp gn gu gb ga) → va_S A s.heap H locs → ∀ ls : Array Slot, lv_has ls 8 [] → W p l e (headSpec wsX0_isBetter rm_X0_isBetter).room s m ([.ref d0, .int a1, .int a2] : List Value).toArray below meth c H locs 0 0 (MQ below (Q_X0_isBetter D cI d0 g0 g1 g2 g3 g4 dr dp gn gu gb ga a1 a2 A) ([.ref d0, .int a1, .int a2] : List Value).toArray s 0 0 A) (F0 m 70 ls [.int j12]) := by
        intro hb12 H locs hP hD hS ls hl
        exact W.zret (ty := .boolean) (v := j12) hx hb hr (by rcases hb12 with h9 | h9 <;> rw [h9] <;> rfl) (fun t ht hW => ⟨⟨j12, (), rfl, ⟨he, hb12⟩, by rw [ht]; exact hP, va_K.moved hW.alike hK, hD⟩, hS.F ht⟩) hS.2.2 dX0_isBetter_70
      replace he := hJ12
      replace hp := hpJ12
      refine lv_icmp_le (tgt := 69) hx hb dX0_isBetter_62 (by decide) (fun c13 => ?_) (fun c13 => ?_)
      · replace hp := hp.1 c13
        replace he := he.trans (if_pos c13)
        refine lv_iconst (v := 0) hx hb dX0_isBetter_69 (by decide) ?_
        subst he
        exact kont12 (Or.inl rfl) _ _ hP hD hS _ (lv_sub hl [] rfl)
      · replace hp := hp.2 c13
        replace he := he.trans (if_neg c13)
        refine lv_iconst (v := 1) hx hb dX0_isBetter_65 (by decide) ?_
        refine lv_goto (tgt := 70) hx hb dX0_isBetter_66 (by decide) ?_
        subst he
        exact kont12 (Or.inr rfl) _ _ hP hD hS _ (lv_sub hl [] rfl)
  · replace hp := hp.2 c3
    replace he := he.trans (if_neg c3)
    refine lv_iload_n hx hb dX0_isBetter_17 rfl (lv_at hl 1 rfl) ?_
    refine lv_iload hx hb dX0_isBetter_18 (lv_at hl 0 rfl) ?_
    obtain ⟨j14, hJ14⟩ : ∃ z : Int32, z = (if (f_J6_bitCount_0f7a4 a2) ≤ (f_J6_bitCount_0f7a4 a1) then (0 : Int32) else (1 : Int32)) := ⟨_, rfl⟩
    rw [← hJ14] at he
    try dsimp only at he
    have hpJ14 := hp.1
    replace hp := hp.2 _  hJ14.symm
    have kont14 : (j14 = 0 ∨ j14 = 1) → ∀ (H : Heap) (locs : List Loc), va_P D vwCl (W_X0 cI d0 g0 g1 g2 g3 g4 dr dp gn gu gb ga) H → va_D A (W_X0 cI d0 g0 g1 g2 g3 g4 dr dp gn gu gb ga) → va_S A s.heap H locs → ∀ ls : Array Slot, lv_has ls 8 [] → W p l e (headSpec wsX0_isBetter rm_X0_isBetter).room s m ([.ref d0, .int a1, .int a2] : List Value).toArray below meth c H locs 0 0 (MQ below (Q_X0_isBetter D cI d0 g0 g1 g2 g3 g4 dr dp gn gu gb ga a1 a2 A) ([.ref d0, .int a1, .int a2] : List Value).toArray s 0 0 A) (F0 m 28 ls [.int j14]) := by
      intro hb14 H locs hP hD hS ls hl
      exact W.zret (ty := .boolean) (v := j14) hx hb hr (by rcases hb14 with h9 | h9 <;> rw [h9] <;> rfl) (fun t ht hW => ⟨⟨j14, (), rfl, ⟨he, hb14⟩, by rw [ht]; exact hP, va_K.moved hW.alike hK, hD⟩, hS.F ht⟩) hS.2.2 dX0_isBetter_28
    replace he := hJ14
    replace hp := hpJ14
    refine lv_icmp_ge (tgt := 27) hx hb dX0_isBetter_20 (by decide) (fun c15 => ?_) (fun c15 => ?_)
    · replace hp := hp.1 c15
      replace he := he.trans (if_pos c15)
      refine lv_iconst (v := 0) hx hb dX0_isBetter_27 (by decide) ?_
      subst he
      exact kont14 (Or.inl rfl) _ _ hP hD hS _ (lv_sub hl [] rfl)
    · replace hp := hp.2 c15
      replace he := he.trans (if_neg c15)
      refine lv_iconst (v := 1) hx hb dX0_isBetter_23 (by decide) ?_
      refine lv_goto (tgt := 28) hx hb dX0_isBetter_24 (by decide) ?_
      subst he
      exact kont14 (Or.inr rfl) _ _ hP hD hS _ (lv_sub hl [] rfl)
abbrev rm_X0_explainsAll : Room := { frames := 2, cells := 0, slots := 0, locals := 41 }
abbrev Q_X0_explainsAll (D : va_G) (cI : ClassId) (d0 g0 g1 g2 g3 g4 : Nat) (dr : Int32) (dp : Int32) (gn : AA) (gu : AA) (gb : AA) (ga : AA) (a1 : Int32) (A : Nat → Prop) : Array Value → State → Outcome → State → Prop := va_Qi (S := Unit) (fun r u => f_X0_explainsAll dr gb a1 = r ∧ (r = 0 ∨ r = 1)) (fun u t => QW D [(cI, .int)] A (W_X0 cI d0 g0 g1 g2 g3 g4 dr dp gn gu gb ga) t) A
set_option maxHeartbeats 4000000 in
set_option maxRecDepth 100000 in
theorem c_X0_explainsAll (l : Launch)  (D : va_G) (cI : ClassId) (d0 g0 g1 g2 g3 g4 : Nat) (dr : Int32) (dp : Int32) (gn : AA) (gu : AA) (gb : AA) (ga : AA) (sz : Nat) (a1 : Int32) (hp : p_X0_explainsAll dr gb a1) : Met l yX0_explainsAll wsX0_explainsAll rm_X0_explainsAll (va_Pc [.ref d0, .int a1] (PW D [(cI, .int)] sz (W_X0 cI d0 g0 g1 g2 g3 g4 dr dp gn gu gb ga))) (Q_X0_explainsAll D cI d0 g0 g1 g2 g3 g4 dr dp gn gu gb ga a1 (va_A (W_X0 cI d0 g0 g1 g2 g3 g4 dr dp gn gu gb ga) sz)) 0 0 (va_A (W_X0 cI d0 g0 g1 g2 g3 g4 dr dp gn gu gb ga) sz) := by
  refine Met.ofW (cc := cX0_explainsAll) (maxL := 3) (ret := (some .boolean)) (by decide) rfl ?_
  intro p e s m args below meth c s₁ B hml hv
  obtain ⟨rfl, hsz, hP, hK, hD0, hN⟩ := hv
  have hx := B.exec
  have hb := B.bytes
  have hr := B.returns
  have hts := atoms_spec (ws := wsX0_explainsAll) B.pre
  have hown : s.vm.findClass RX0 = some m.cls := findClass_of_methodNamed B.named
  have hlocks := B.notSynchronized
  subst hsz
  have hD := hD0.self (sz := s.heap.size)
  generalize hAe : va_A (W_X0 cI d0 g0 g1 g2 g3 g4 dr dp gn gu gb ga) s.heap.size = A at hD ⊢
  have hA : ∀ q : Nat, s.heap.size ≤ q → A q := fun q h => by rw [← hAe]; exact Or.inr h
  have hS : va_S A s.heap s.heap [] := va_S.rf
  have hl := lv_entry ([.ref d0, .int a1]) (n := 3) (Nat.le_of_ble_eq_true rfl)
  rw [lg_entry_eq]
  generalize (lg_sl ([.ref d0, .int a1]) ++ List.replicate (3 - (lg_sl ([.ref d0, .int a1])).length) Slot.unset).toArray = ls at hl ⊢
  have hl : lv_has ls 3 [(0, .ref d0), (1, .int a1)] := hl
  have he := f_X0_explainsAll.eq_1 dr gb a1
  replace hp := Eq.mp (p_X0_explainsAll.eq_1 ..) hp
  refine lv_iconst (v := 0) hx hb dX0_explainsAll_0 (by decide) ?_
  refine lv_istore_n (lv' := [(2, .int 0), (0, .ref d0), (1, .int a1)]) hx hb dX0_explainsAll_1 rfl hl (by decide) rfl (fun ls hl => ?_)
  have loop1 : ∀ (n : Nat) (v2_2 : Int32), p_X0_explainsAll_L2 dr gb a1 n v2_2 → f_X0_explainsAll dr gb a1 = f_X0_explainsAll_L2 dr gb a1 n v2_2 → ∀ (H : Heap) (locs : List Loc), va_P D vwCl (W_X0 cI d0 g0 g1 g2 g3 g4 dr dp gn gu gb ga) H → va_D A (W_X0 cI d0 g0 g1 g2 g3 g4 dr dp gn gu gb ga) → va_S A s.heap H locs → ∀ ls : Array Slot, lv_has ls 3 [(2, .int v2_2), (0, .ref d0), (1, .int a1)] → W p l e (headSpec wsX0_explainsAll rm_X0_explainsAll).room s m ([.ref d0, .int a1] : List Value).toArray below meth c H locs 0 0 (MQ below (Q_X0_explainsAll D cI d0 g0 g1 g2 g3 g4 dr dp gn gu gb ga a1 A) ([.ref d0, .int a1] : List Value).toArray s 0 0 A) (F0 m 2 ls []) := by
    intro n
    induction n with
    | zero => exact fun _ hp => hp.elim
    | succ n ih =>
      intro v2_2 hp he H locs hP hD hS ls hl
      replace hp := Eq.mp (p_X0_explainsAll_L2.eq_2 ..) hp
      replace he := he.trans (f_X0_explainsAll_L2.eq_2 ..)
      refine lv_iload_n hx hb dX0_explainsAll_2 rfl (lv_at hl 0 rfl) ?_
      refine lv_bipush (v := 14) hx hb dX0_explainsAll_3 (by decide) ?_
      refine lv_icmp_ge (tgt := 40) hx hb dX0_explainsAll_5 (by decide) (fun c2 => ?_) (fun c2 => ?_)
      · replace hp := hp.1 c2
        replace he := he.trans (if_pos c2)
        refine lv_iconst (v := 1) hx hb dX0_explainsAll_40 (by decide) ?_
        exact W.zret (ty := .boolean) (v := 1) hx hb hr rfl (fun t ht hW => ⟨⟨1, (), rfl, ⟨he, (Or.inr rfl)⟩, by rw [ht]; exact hP, va_K.moved hW.alike hK, hD⟩, hS.F ht⟩) hS.2.2 dX0_explainsAll_41
      · replace hp := hp.2 c2
        replace he := he.trans (if_neg c2)
        refine lv_aload_n hx hb dX0_explainsAll_8 rfl (lv_at hl 1 rfl) ?_
        refine va_get (D := D) (ci := 0) (v := .int dr) (C := RX0) (T := TX0) (N := 3) hx hb hts (by decide +kernel) hown hK hP 0 rfl rfl 1 (by decide) (hts (.fieldLink RX0 15 "Alarmgrove$Diagnoser" "raised" "I") (by decide +kernel)) (fun _ h9 => h9) rfl dX0_explainsAll_9 ?_
        refine lv_iload_n hx hb dX0_explainsAll_12 rfl (lv_at hl 0 rfl) ?_
        refine k_calli (S := Unit) (wc := ([] : va_W)) (wr := (W_X0 cI d0 g0 g1 g2 g3 g4 dr dp gn gu gb ga)) (w1 := fun u => ([] : va_W)) (fun u => (W_X0 cI d0 g0 g1 g2 g3 g4 dr dp gn gu gb ga)) hP hK hD hN hS hA [] [0, 1, 2, 3, 4, 5] rfl rfl (by decide) (by decide) (by decide) [0, 1, 2, 3, 4, 5] (by decide) (fun _ => rfl) (fun hg => va_runSN (As := [.int dr, .int v2_2]) (rest := []) ⟨hx, hb, hml, hown, hts⟩ (c_X4_has l D cI _ dr v2_2) ⟨va_cnB 2 hts gX0_explainsAll_X4_has_n52 rfl rfl rfl (hN.at 2 rfl) (hts (.initialized RX4) (by decide +kernel)) (by decide +kernel) ⟨Nat.le_of_ble_eq_true rfl, Nat.le_of_ble_eq_true rfl⟩, hts (.static yX4_has) (by decide +kernel), trivial⟩ ⟨PW.blind, fun U hU hW => ⟨rfl, hg U hU hW⟩⟩ rfl rfl hl.1 rfl (lv_room (Nat.le_of_ble_eq_true rfl)) dX0_explainsAll_13 ⟨Nat.le_of_ble_eq_true rfl, Nat.le_of_ble_eq_true rfl⟩) (fun r3 u H locs hw hP hD hS => ?_)
        obtain ⟨hw, hb3⟩ := hw
        subst hw
        refine lv_if_eq (tgt := 34) hx hb dX0_explainsAll_16 (by decide) (fun c4 => ?_) (fun c4 => ?_)
        · replace hp := hp.1 c4
          replace he := he.trans (if_pos c4)
          refine lv_iinc (v := (v2_2 + 1)) (lv' := [(2, .int (v2_2 + 1)), (0, .ref d0), (1, .int a1)]) hx hb dX0_explainsAll_34 hl (k := 0) rfl rfl (by decide) rfl (fun ls hl => ?_)
          refine lv_goto (tgt := 2) hx hb dX0_explainsAll_37 (by decide) ?_
          exact ih _ hp he _ _ hP hD hS _ (lv_sub hl [0, 1, 2] rfl)
        · replace hp := hp.2 c4
          replace he := he.trans (if_neg c4)
          refine lv_aload_n hx hb dX0_explainsAll_19 rfl (lv_at hl 1 rfl) ?_
          refine va_get (D := D) (ci := 0) (v := .ref g0) (C := RX0) (T := TX0) (N := 3) hx hb hts (by decide +kernel) hown hK hP 0 rfl rfl 0 (by decide) (hts (.fieldLink RX0 9 "Alarmgrove$Diagnoser" "graph" "LAlarmgrove$Graph;") (by decide +kernel)) (fun _ h9 => h9) rfl dX0_explainsAll_20 ?_
          refine lv_iload_n hx hb dX0_explainsAll_23 rfl (lv_at hl 0 rfl) ?_
          have hq5 := hp.1
          replace hp := hp.2
          refine k_calli (S := Unit) (wc := (W_X1 cI g0 g1 g2 g3 g4 gn gu gb ga)) (wr := [(d0, .inr (0, [.ref g0, .int dr, .int dp]))]) (w1 := fun u => (W_X1 cI g0 g1 g2 g3 g4 gn gu gb ga)) (fun u => (W_X0 cI d0 g0 g1 g2 g3 g4 dr dp gn gu gb ga)) hP hK hD hN hS hA [1, 2, 3, 4, 5] [0] rfl rfl (by decide) (by decide) (by decide) [0, 1, 2, 3, 4, 5] (by decide) (fun _ => rfl) (fun hg => va_runV (As := [.int v2_2]) (rest := []) ⟨hx, hb, hml, hown, hts⟩ (c_X1_explainersOf l D cI g0 g1 g2 g3 g4 gn gu gb ga _ v2_2 hq5) (cwV 1 hts gX0_explainsAll_X1_explainersOf rfl rfl rfl (by decide +kernel) ⟨Nat.le_of_ble_eq_true rfl, Nat.le_of_ble_eq_true rfl⟩) ⟨PW.blind, va_recv hK hP (ci := 1) (q0 := 1) rfl rfl, fun U hU hW => ⟨rfl, hg U hU hW⟩⟩ rfl rfl hl.1 rfl (lv_room (Nat.le_of_ble_eq_true rfl)) dX0_explainsAll_24 ⟨Nat.le_of_ble_eq_true rfl, Nat.le_of_ble_eq_true rfl⟩) (fun r5 u H locs hw hP hD hS => ?_)
          subst hw
          refine lv_iload_n hx hb dX0_explainsAll_27 rfl (lv_at hl 2 rfl) ?_
          refine lv_iand hx hb dX0_explainsAll_28 ?_
          refine lv_if_ne (tgt := 34) hx hb dX0_explainsAll_29 (by decide) (fun c6 => ?_) (fun c6 => ?_)
          · replace hp := hp.2 c6
            replace he := he.trans (if_neg c6)
            refine lv_iinc (v := (v2_2 + 1)) (lv' := [(2, .int (v2_2 + 1)), (0, .ref d0), (1, .int a1)]) hx hb dX0_explainsAll_34 hl (k := 0) rfl rfl (by decide) rfl (fun ls hl => ?_)
            refine lv_goto (tgt := 2) hx hb dX0_explainsAll_37 (by decide) ?_
            exact ih _ hp he _ _ hP hD hS _ (lv_sub hl [0, 1, 2] rfl)
          · replace hp := hp.1 c6
            replace he := he.trans (if_pos c6)
            refine lv_iconst (v := 0) hx hb dX0_explainsAll_32 (by decide) ?_
            exact W.zret (ty := .boolean) (v := 0) hx hb hr rfl (fun t ht hW => ⟨⟨0, (), rfl, ⟨he, (Or.inl rfl)⟩, by rw [ht]; exact hP, va_K.moved hW.alike hK, hD⟩, hS.F ht⟩) hS.2.2 dX0_explainsAll_33
  exact loop1 15 (0 : Int32) hp he _ _ hP hD hS _ (lv_sub hl [0, 1, 2] rfl)
