abbrev rm_X4_only : Room := { frames := 0, cells := 0, slots := 0, locals := 0 }
abbrev Q_X4_only (D : va_G) (cI : ClassId) (a0 : Int32) (A : Nat → Prop) : Array Value → State → Outcome → State → Prop := va_Qi (S := Unit) (fun r u => f_X4_only a0 = r) (fun u t => QW D [(cI, .int)] A ([] : va_W) t) A
set_option maxHeartbeats 4000000 in
set_option maxRecDepth 100000 in
theorem c_X4_only (l : Launch)  (D : va_G) (cI : ClassId) (sz : Nat) (a0 : Int32) : Met l yX4_only wsX4_only rm_X4_only (va_Pc [.int a0] (PW D [(cI, .int)] sz ([] : va_W))) (Q_X4_only D cI a0 (va_A ([] : va_W) sz)) 0 0 (va_A ([] : va_W) sz) := by
  refine Met.ofW (cc := cX4_only) (maxL := 1) (ret := (some .int)) (by decide) rfl ?_
  intro p e s m args below meth c s₁ B hml hv
  obtain ⟨rfl, hsz, hP, hK, hD0, hN⟩ := hv
  have hx := B.exec
  have hb := B.bytes
  have hr := B.returns
  have hts := atoms_spec (ws := wsX4_only) B.pre
  have hown : s.vm.findClass RX4 = some m.cls := findClass_of_methodNamed B.named
  have hlocks := B.notSynchronized
  subst hsz
  have hD := hD0.self (sz := s.heap.size)
  generalize hAe : va_A ([] : va_W) s.heap.size = A at hD ⊢
  have hA : ∀ q : Nat, s.heap.size ≤ q → A q := fun q h => by rw [← hAe]; exact Or.inr h
  have hS : va_S A s.heap s.heap [] := va_S.rf
  have hl := lv_entry ([.int a0]) (n := 1) (Nat.le_of_ble_eq_true rfl)
  rw [lg_entry_eq]
  generalize (lg_sl ([.int a0]) ++ List.replicate (1 - (lg_sl ([.int a0])).length) Slot.unset).toArray = ls at hl ⊢
  have hl : lv_has ls 1 [(0, .int a0)] := hl
  have he := f_X4_only.eq_1 a0
  refine lv_iconst (v := 1) hx hb dX4_only_0 (by decide) ?_
  refine lv_iload_n hx hb dX4_only_1 rfl (lv_at hl 0 rfl) ?_
  refine lv_ishl hx hb dX4_only_2 ?_
  exact W.iret (v := (1 <<< (a0 &&& 31))) hx hb hr (fun t ht hW => ⟨⟨(1 <<< (a0 &&& 31)), (), rfl, he, by rw [ht]; exact hP, va_K.moved hW.alike hK, hD⟩, hS.F ht⟩) hS.2.2 dX4_only_3
abbrev rm_X4_has : Room := { frames := 1, cells := 0, slots := 0, locals := 20 }
abbrev Q_X4_has (D : va_G) (cI : ClassId) (a0 a1 : Int32) (A : Nat → Prop) : Array Value → State → Outcome → State → Prop := va_Qi (S := Unit) (fun r u => f_X4_has a0 a1 = r ∧ (r = 0 ∨ r = 1)) (fun u t => QW D [(cI, .int)] A ([] : va_W) t) A
set_option maxHeartbeats 4000000 in
set_option maxRecDepth 100000 in
theorem c_X4_has (l : Launch)  (D : va_G) (cI : ClassId) (sz : Nat) (a0 a1 : Int32) : Met l yX4_has wsX4_has rm_X4_has (va_Pc [.int a0, .int a1] (PW D [(cI, .int)] sz ([] : va_W))) (Q_X4_has D cI a0 a1 (va_A ([] : va_W) sz)) 0 0 (va_A ([] : va_W) sz) := by
  refine Met.ofW (cc := cX4_has) (maxL := 2) (ret := (some .boolean)) (by decide) rfl ?_
  intro p e s m args below meth c s₁ B hml hv
  obtain ⟨rfl, hsz, hP, hK, hD0, hN⟩ := hv
  have hx := B.exec
  have hb := B.bytes
  have hr := B.returns
  have hts := atoms_spec (ws := wsX4_has) B.pre
  have hown : s.vm.findClass RX4 = some m.cls := findClass_of_methodNamed B.named
  have hlocks := B.notSynchronized
  subst hsz
  have hD := hD0.self (sz := s.heap.size)
  generalize hAe : va_A ([] : va_W) s.heap.size = A at hD ⊢
  have hA : ∀ q : Nat, s.heap.size ≤ q → A q := fun q h => by rw [← hAe]; exact Or.inr h
  have hS : va_S A s.heap s.heap [] := va_S.rf
  have hl := lv_entry ([.int a0, .int a1]) (n := 2) (Nat.le_of_ble_eq_true rfl)
  rw [lg_entry_eq]
  generalize (lg_sl ([.int a0, .int a1]) ++ List.replicate (2 - (lg_sl ([.int a0, .int a1])).length) Slot.unset).toArray = ls at hl ⊢
  have hl : lv_has ls 2 [(0, .int a0), (1, .int a1)] := hl
  have he := f_X4_has.eq_1 a0 a1
  refine lv_iload_n hx hb dX4_has_0 rfl (lv_at hl 0 rfl) ?_
  refine lv_iload_n hx hb dX4_has_1 rfl (lv_at hl 1 rfl) ?_
  refine k_calli (S := Unit) (wc := ([] : va_W)) (wr := ([] : va_W)) (w1 := fun u => ([] : va_W)) (fun u => ([] : va_W)) hP hK hD hN hS hA [] [] rfl rfl (by decide) (by decide) (by decide) [] (by decide) (fun _ => rfl) (fun hg => va_runS (As := [.int a1]) (rest := [.int a0]) ⟨hx, hb, hml, hown, hts⟩ (c_X4_only l D cI _ a1) (va_cwS 1 hts gX4_has_X4_only rfl rfl rfl (by decide +kernel) ⟨Nat.le_of_ble_eq_true rfl, Nat.le_of_ble_eq_true rfl⟩) ⟨PW.blind, fun U hU hW => ⟨rfl, hg U hU hW⟩⟩ rfl rfl hl.1 rfl (lv_room (Nat.le_of_ble_eq_true rfl)) dX4_has_2 ⟨Nat.le_of_ble_eq_true rfl, Nat.le_of_ble_eq_true rfl⟩) (fun r1 u H locs hw hP hD hS => ?_)
  subst hw
  refine lv_iand hx hb dX4_has_5 ?_
  obtain ⟨j2, hJ2⟩ : ∃ z : Int32, z = (if (a0 &&& (f_X4_only a1)) = 0 then (0 : Int32) else (1 : Int32)) := ⟨_, rfl⟩
  rw [← hJ2] at he
  try dsimp only at he
  have kont2 : (j2 = 0 ∨ j2 = 1) → ∀ (H : Heap) (locs : List Loc), va_P D vwCl ([] : va_W) H → va_D A ([] : va_W) → va_S A s.heap H locs → ∀ ls : Array Slot, lv_has ls 2 [] → W p l e (headSpec wsX4_has rm_X4_has).room s m ([.int a0, .int a1] : List Value).toArray below meth c H locs 0 0 (MQ below (Q_X4_has D cI a0 a1 A) ([.int a0, .int a1] : List Value).toArray s 0 0 A) (F0 m 14 ls [.int j2]) := by
    intro hb2 H locs hP hD hS ls hl
    exact W.zret (ty := .boolean) (v := j2) hx hb hr (by rcases hb2 with h9 | h9 <;> rw [h9] <;> rfl) (fun t ht hW => ⟨⟨j2, (), rfl, ⟨he, hb2⟩, by rw [ht]; exact hP, va_K.moved hW.alike hK, hD⟩, hS.F ht⟩) hS.2.2 dX4_has_14
  replace he := hJ2
  refine lv_if_eq (tgt := 13) hx hb dX4_has_6 (by decide) (fun c3 => ?_) (fun c3 => ?_)
  · replace he := he.trans (if_pos c3)
    refine lv_iconst (v := 0) hx hb dX4_has_13 (by decide) ?_
    subst he
    exact kont2 (Or.inl rfl) _ _ hP hD hS _ (lv_sub hl [] rfl)
  · replace he := he.trans (if_neg c3)
    refine lv_iconst (v := 1) hx hb dX4_has_9 (by decide) ?_
    refine lv_goto (tgt := 14) hx hb dX4_has_10 (by decide) ?_
    subst he
    exact kont2 (Or.inr rfl) _ _ hP hD hS _ (lv_sub hl [] rfl)
abbrev rm_X4_nodeAtPlace : Room := { frames := 2, cells := 0, slots := 0, locals := 41 }
abbrev Q_X4_nodeAtPlace (D : va_G) (cI : ClassId) (a0 a1 : Int32) (A : Nat → Prop) : Array Value → State → Outcome → State → Prop := va_Qi (S := Unit) (fun r u => f_X4_nodeAtPlace a0 a1 = r) (fun u t => QW D [(cI, .int)] A ([] : va_W) t) A
set_option maxHeartbeats 4000000 in
set_option maxRecDepth 100000 in
theorem c_X4_nodeAtPlace (l : Launch)  (D : va_G) (cI : ClassId) (sz : Nat) (a0 a1 : Int32) (hp : p_X4_nodeAtPlace a0 a1) : Met l yX4_nodeAtPlace wsX4_nodeAtPlace rm_X4_nodeAtPlace (va_Pc [.int a0, .int a1] (PW D [(cI, .int)] sz ([] : va_W))) (Q_X4_nodeAtPlace D cI a0 a1 (va_A ([] : va_W) sz)) 0 0 (va_A ([] : va_W) sz) := by
  refine Met.ofW (cc := cX4_nodeAtPlace) (maxL := 4) (ret := (some .int)) (by decide) rfl ?_
  intro p e s m args below meth c s₁ B hml hv
  obtain ⟨rfl, hsz, hP, hK, hD0, hN⟩ := hv
  have hx := B.exec
  have hb := B.bytes
  have hr := B.returns
  have hts := atoms_spec (ws := wsX4_nodeAtPlace) B.pre
  have hown : s.vm.findClass RX4 = some m.cls := findClass_of_methodNamed B.named
  have hlocks := B.notSynchronized
  subst hsz
  have hD := hD0.self (sz := s.heap.size)
  generalize hAe : va_A ([] : va_W) s.heap.size = A at hD ⊢
  have hA : ∀ q : Nat, s.heap.size ≤ q → A q := fun q h => by rw [← hAe]; exact Or.inr h
  have hS : va_S A s.heap s.heap [] := va_S.rf
  have hl := lv_entry ([.int a0, .int a1]) (n := 4) (Nat.le_of_ble_eq_true rfl)
  rw [lg_entry_eq]
  generalize (lg_sl ([.int a0, .int a1]) ++ List.replicate (4 - (lg_sl ([.int a0, .int a1])).length) Slot.unset).toArray = ls at hl ⊢
  have hl : lv_has ls 4 [(0, .int a0), (1, .int a1)] := hl
  have he := f_X4_nodeAtPlace.eq_1 a0 a1
  replace hp := Eq.mp (p_X4_nodeAtPlace.eq_1 ..) hp
  refine lv_iconst (v := 0) hx hb dX4_nodeAtPlace_0 (by decide) ?_
  refine lv_istore_n (lv' := [(2, .int 0), (0, .int a0), (1, .int a1)]) hx hb dX4_nodeAtPlace_1 rfl hl (by decide) rfl (fun ls hl => ?_)
  refine lv_iconst (v := 0) hx hb dX4_nodeAtPlace_2 (by decide) ?_
  refine lv_istore_n (lv' := [(3, .int 0), (2, .int 0), (0, .int a0), (1, .int a1)]) hx hb dX4_nodeAtPlace_3 rfl hl (by decide) rfl (fun ls hl => ?_)
  have loop1 : ∀ (n : Nat) (v4_2 : Int32) (v4_3 : Int32), p_X4_nodeAtPlace_L4 a0 a1 n v4_2 v4_3 → f_X4_nodeAtPlace a0 a1 = f_X4_nodeAtPlace_L4 a0 a1 n v4_2 v4_3 → ∀ (H : Heap) (locs : List Loc), va_P D vwCl ([] : va_W) H → va_D A ([] : va_W) → va_S A s.heap H locs → ∀ ls : Array Slot, lv_has ls 4 [(3, .int v4_3), (2, .int v4_2), (0, .int a0), (1, .int a1)] → W p l e (headSpec wsX4_nodeAtPlace rm_X4_nodeAtPlace).room s m ([.int a0, .int a1] : List Value).toArray below meth c H locs 0 0 (MQ below (Q_X4_nodeAtPlace D cI a0 a1 A) ([.int a0, .int a1] : List Value).toArray s 0 0 A) (F0 m 4 ls []) := by
    intro n
    induction n with
    | zero => exact fun _ _ hp => hp.elim
    | succ n ih =>
      intro v4_2 v4_3 hp he H locs hP hD hS ls hl
      replace hp := Eq.mp (p_X4_nodeAtPlace_L4.eq_2 ..) hp
      replace he := he.trans (f_X4_nodeAtPlace_L4.eq_2 ..)
      refine lv_iload_n hx hb dX4_nodeAtPlace_4 rfl (lv_at hl 0 rfl) ?_
      refine lv_bipush (v := 14) hx hb dX4_nodeAtPlace_5 (by decide) ?_
      refine lv_icmp_ge (tgt := 34) hx hb dX4_nodeAtPlace_7 (by decide) (fun c2 => ?_) (fun c2 => ?_)
      · replace hp := hp.1 c2
        replace he := he.trans (if_pos c2)
        refine lv_iconst (v := (-1)) hx hb dX4_nodeAtPlace_34 (by decide) ?_
        exact W.iret (v := (-1)) hx hb hr (fun t ht hW => ⟨⟨(-1), (), rfl, he, by rw [ht]; exact hP, va_K.moved hW.alike hK, hD⟩, hS.F ht⟩) hS.2.2 dX4_nodeAtPlace_35
      · replace hp := hp.2 c2
        replace he := he.trans (if_neg c2)
        refine lv_iload_n hx hb dX4_nodeAtPlace_10 rfl (lv_at hl 2 rfl) ?_
        refine lv_iload_n hx hb dX4_nodeAtPlace_11 rfl (lv_at hl 0 rfl) ?_
        refine k_calli (S := Unit) (wc := ([] : va_W)) (wr := ([] : va_W)) (w1 := fun u => ([] : va_W)) (fun u => ([] : va_W)) hP hK hD hN hS hA [] [] rfl rfl (by decide) (by decide) (by decide) [] (by decide) (fun _ => rfl) (fun hg => va_runS (As := [.int a0, .int v4_3]) (rest := []) ⟨hx, hb, hml, hown, hts⟩ (c_X4_has l D cI _ a0 v4_3) (va_cwS 2 hts gX4_nodeAtPlace_X4_has rfl rfl rfl (by decide +kernel) ⟨Nat.le_of_ble_eq_true rfl, Nat.le_of_ble_eq_true rfl⟩) ⟨PW.blind, fun U hU hW => ⟨rfl, hg U hU hW⟩⟩ rfl rfl hl.1 rfl (lv_room (Nat.le_of_ble_eq_true rfl)) dX4_nodeAtPlace_12 ⟨Nat.le_of_ble_eq_true rfl, Nat.le_of_ble_eq_true rfl⟩) (fun r3 u H locs hw hP hD hS => ?_)
        obtain ⟨hw, hb3⟩ := hw
        subst hw
        refine lv_if_eq (tgt := 28) hx hb dX4_nodeAtPlace_15 (by decide) (fun c4 => ?_) (fun c4 => ?_)
        · replace hp := hp.1 c4
          replace he := he.trans (if_pos c4)
          refine lv_iinc (v := (v4_3 + 1)) (lv' := [(3, .int (v4_3 + 1)), (2, .int v4_2), (0, .int a0), (1, .int a1)]) hx hb dX4_nodeAtPlace_28 hl (k := 0) rfl rfl (by decide) rfl (fun ls hl => ?_)
          refine lv_goto (tgt := 4) hx hb dX4_nodeAtPlace_31 (by decide) ?_
          exact ih _ _ hp he _ _ hP hD hS _ (lv_sub hl [0, 1, 2, 3] rfl)
        · replace hp := hp.2 c4
          replace he := he.trans (if_neg c4)
          refine lv_iload_n hx hb dX4_nodeAtPlace_18 rfl (lv_at hl 1 rfl) ?_
          refine lv_iload_n hx hb dX4_nodeAtPlace_19 rfl (lv_at hl 3 rfl) ?_
          refine lv_icmp_ne (tgt := 25) hx hb dX4_nodeAtPlace_20 (by decide) (fun c5 => ?_) (fun c5 => ?_)
          · replace hp := hp.2 c5
            replace he := he.trans (if_neg c5)
            refine lv_iinc (v := (v4_2 + 1)) (lv' := [(2, .int (v4_2 + 1)), (3, .int v4_3), (0, .int a0), (1, .int a1)]) hx hb dX4_nodeAtPlace_25 hl (k := 1) rfl rfl (by decide) rfl (fun ls hl => ?_)
            refine lv_iinc (v := (v4_3 + 1)) (lv' := [(3, .int (v4_3 + 1)), (2, .int (v4_2 + 1)), (0, .int a0), (1, .int a1)]) hx hb dX4_nodeAtPlace_28 hl (k := 1) rfl rfl (by decide) rfl (fun ls hl => ?_)
            refine lv_goto (tgt := 4) hx hb dX4_nodeAtPlace_31 (by decide) ?_
            exact ih _ _ hp he _ _ hP hD hS _ (lv_sub hl [0, 1, 2, 3] rfl)
          · replace hp := hp.1 c5
            replace he := he.trans (if_pos c5)
            refine lv_iload_n hx hb dX4_nodeAtPlace_23 rfl (lv_at hl 0 rfl) ?_
            exact W.iret (v := v4_3) hx hb hr (fun t ht hW => ⟨⟨v4_3, (), rfl, he, by rw [ht]; exact hP, va_K.moved hW.alike hK, hD⟩, hS.F ht⟩) hS.2.2 dX4_nodeAtPlace_24
  exact loop1 15 (0 : Int32) (0 : Int32) hp he _ _ hP hD hS _ (lv_sub hl [0, 1, 2, 3] rfl)
