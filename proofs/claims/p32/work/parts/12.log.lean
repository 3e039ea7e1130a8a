abbrev rm_X2_isFull : Room := { frames := 0, cells := 0, slots := 0, locals := 0 }
abbrev Q_X2_isFull (D : va_G) (cI : ClassId) (l0 l1 l2 l3 l4 l5 : Nat) (lc : Int32) (lk : AA) (ln : AA) (lt : AA) (ll : AA) (lr : AA) (A : Nat → Prop) : Array Value → State → Outcome → State → Prop := va_Qi (S := Unit) (fun r u => f_X2_isFull lc = r ∧ (r = 0 ∨ r = 1)) (fun u t => QW D [(cI, .int)] A (W_X2 cI l0 l1 l2 l3 l4 l5 lc lk ln lt ll lr) t) A
set_option maxHeartbeats 4000000 in
set_option maxRecDepth 100000 in
theorem c_X2_isFull (l : Launch)  (D : va_G) (cI : ClassId) (l0 l1 l2 l3 l4 l5 : Nat) (lc : Int32) (lk : AA) (ln : AA) (lt : AA) (ll : AA) (lr : AA) (sz : Nat) : Met l yX2_isFull wsX2_isFull rm_X2_isFull (va_Pc [.ref l0] (PW D [(cI, .int)] sz (W_X2 cI l0 l1 l2 l3 l4 l5 lc lk ln lt ll lr))) (Q_X2_isFull D cI l0 l1 l2 l3 l4 l5 lc lk ln lt ll lr (va_A (W_X2 cI l0 l1 l2 l3 l4 l5 lc lk ln lt ll lr) sz)) 0 0 (va_A (W_X2 cI l0 l1 l2 l3 l4 l5 lc lk ln lt ll lr) sz) := by
  refine Met.ofW (cc := cX2_isFull) (maxL := 1) (ret := (some .boolean)) (by decide) rfl ?_
  intro p e s m args below meth c s₁ B hml hv
  obtain ⟨rfl, hsz, hP, hK, hD0, hN⟩ := hv
  have hx := B.exec
  have hb := B.bytes
  have hr := B.returns
  have hts := atoms_spec (ws := wsX2_isFull) B.pre
  have hown : s.vm.findClass RX2 = some m.cls := findClass_of_methodNamed B.named
  have hlocks := B.notSynchronized
  subst hsz
  have hD := hD0.self (sz := s.heap.size)
  generalize hAe : va_A (W_X2 cI l0 l1 l2 l3 l4 l5 lc lk ln lt ll lr) s.heap.size = A at hD ⊢
  have hA : ∀ q : Nat, s.heap.size ≤ q → A q := fun q h => by rw [← hAe]; exact Or.inr h
  have hS : va_S A s.heap s.heap [] := va_S.rf
  have hl := lv_entry ([.ref l0]) (n := 1) (Nat.le_of_ble_eq_true rfl)
  rw [lg_entry_eq]
  generalize (lg_sl ([.ref l0]) ++ List.replicate (1 - (lg_sl ([.ref l0])).length) Slot.unset).toArray = ls at hl ⊢
  have hl : lv_has ls 1 [(0, .ref l0)] := hl
  have he := f_X2_isFull.eq_1 lc
  refine lv_aload_n hx hb dX2_isFull_0 rfl (lv_at hl 0 rfl) ?_
  refine va_get (D := D) (ci := 2) (v := .int lc) (C := RX2) (T := TX2) (N := 6) hx hb hts (by decide +kernel) hown hK hP 0 rfl rfl 5 (by decide) (hts (.fieldLink RX2 27 "Alarmgrove$Log" "count" "I") (by decide +kernel)) (fun _ h9 => h9) rfl dX2_isFull_1 ?_
  refine lv_sipush (v := 300) hx hb dX2_isFull_4 (by decide) ?_
  obtain ⟨j1, hJ1⟩ : ∃ z : Int32, z = (if lc < 300 then (0 : Int32) else (1 : Int32)) := ⟨_, rfl⟩
  rw [← hJ1] at he
  try dsimp only at he
  have kont1 : (j1 = 0 ∨ j1 = 1) → ∀ (H : Heap) (locs : List Loc), va_P D vwCl (W_X2 cI l0 l1 l2 l3 l4 l5 lc lk ln lt ll lr) H → va_D A (W_X2 cI l0 l1 l2 l3 l4 l5 lc lk ln lt ll lr) → va_S A s.heap H locs → ∀ ls : Array Slot, lv_has ls 1 [] → W p l e (headSpec wsX2_isFull rm_X2_isFull).room s m ([.ref l0] : List Value).toArray below meth c H locs 0 0 (MQ below (Q_X2_isFull D cI l0 l1 l2 l3 l4 l5 lc lk ln lt ll lr A) ([.ref l0] : List Value).toArray s 0 0 A) (F0 m 15 ls [.int j1]) := by
    intro hb1 H locs hP hD hS ls hl
    exact W.zret (ty := .boolean) (v := j1) hx hb hr (by rcases hb1 with h9 | h9 <;> rw [h9] <;> rfl) (fun t ht hW => ⟨⟨j1, (), rfl, ⟨he, hb1⟩, by rw [ht]; exact hP, va_K.moved hW.alike hK, hD⟩, hS.F ht⟩) hS.2.2 dX2_isFull_15
  replace he := hJ1
  refine lv_icmp_lt (tgt := 14) hx hb dX2_isFull_7 (by decide) (fun c2 => ?_) (fun c2 => ?_)
  · replace he := he.trans (if_pos c2)
    refine lv_iconst (v := 0) hx hb dX2_isFull_14 (by decide) ?_
    subst he
    exact kont1 (Or.inl rfl) _ _ hP hD hS _ (lv_sub hl [] rfl)
  · replace he := he.trans (if_neg c2)
    refine lv_iconst (v := 1) hx hb dX2_isFull_10 (by decide) ?_
    refine lv_goto (tgt := 15) hx hb dX2_isFull_11 (by decide) ?_
    subst he
    exact kont1 (Or.inr rfl) _ _ hP hD hS _ (lv_sub hl [] rfl)
abbrev rm_X2_count : Room := { frames := 0, cells := 0, slots := 0, locals := 0 }
abbrev Q_X2_count (D : va_G) (cI : ClassId) (l0 l1 l2 l3 l4 l5 : Nat) (lc : Int32) (lk : AA) (ln : AA) (lt : AA) (ll : AA) (lr : AA) (A : Nat → Prop) : Array Value → State → Outcome → State → Prop := va_Qi (S := Unit) (fun r u => f_X2_count lc = r) (fun u t => QW D [(cI, .int)] A (W_X2 cI l0 l1 l2 l3 l4 l5 lc lk ln lt ll lr) t) A
set_option maxHeartbeats 4000000 in
set_option maxRecDepth 100000 in
theorem c_X2_count (l : Launch)  (D : va_G) (cI : ClassId) (l0 l1 l2 l3 l4 l5 : Nat) (lc : Int32) (lk : AA) (ln : AA) (lt : AA) (ll : AA) (lr : AA) (sz : Nat) : Met l yX2_count wsX2_count rm_X2_count (va_Pc [.ref l0] (PW D [(cI, .int)] sz (W_X2 cI l0 l1 l2 l3 l4 l5 lc lk ln lt ll lr))) (Q_X2_count D cI l0 l1 l2 l3 l4 l5 lc lk ln lt ll lr (va_A (W_X2 cI l0 l1 l2 l3 l4 l5 lc lk ln lt ll lr) sz)) 0 0 (va_A (W_X2 cI l0 l1 l2 l3 l4 l5 lc lk ln lt ll lr) sz) := by
  refine Met.ofW (cc := cX2_count) (maxL := 1) (ret := (some .int)) (by decide) rfl ?_
  intro p e s m args below meth c s₁ B hml hv
  obtain ⟨rfl, hsz, hP, hK, hD0, hN⟩ := hv
  have hx := B.exec
  have hb := B.bytes
  have hr := B.returns
  have hts := atoms_spec (ws := wsX2_count) B.pre
  have hown : s.vm.findClass RX2 = some m.cls := findClass_of_methodNamed B.named
  have hlocks := B.notSynchronized
  subst hsz
  have hD := hD0.self (sz := s.heap.size)
  generalize hAe : va_A (W_X2 cI l0 l1 l2 l3 l4 l5 lc lk ln lt ll lr) s.heap.size = A at hD ⊢
  have hA : ∀ q : Nat, s.heap.size ≤ q → A q := fun q h => by rw [← hAe]; exact Or.inr h
  have hS : va_S A s.heap s.heap [] := va_S.rf
  have hl := lv_entry ([.ref l0]) (n := 1) (Nat.le_of_ble_eq_true rfl)
  rw [lg_entry_eq]
  generalize (lg_sl ([.ref l0]) ++ List.replicate (1 - (lg_sl ([.ref l0])).length) Slot.unset).toArray = ls at hl ⊢
  have hl : lv_has ls 1 [(0, .ref l0)] := hl
  have he := f_X2_count.eq_1 lc
  refine lv_aload_n hx hb dX2_count_0 rfl (lv_at hl 0 rfl) ?_
  refine va_get (D := D) (ci := 2) (v := .int lc) (C := RX2) (T := TX2) (N := 6) hx hb hts (by decide +kernel) hown hK hP 0 rfl rfl 5 (by decide) (hts (.fieldLink RX2 27 "Alarmgrove$Log" "count" "I") (by decide +kernel)) (fun _ h9 => h9) rfl dX2_count_1 ?_
  exact W.iret (v := lc) hx hb hr (fun t ht hW => ⟨⟨lc, (), rfl, he, by rw [ht]; exact hP, va_K.moved hW.alike hK, hD⟩, hS.F ht⟩) hS.2.2 dX2_count_4
abbrev rm_X2_add : Room := { frames := 0, cells := 0, slots := 0, locals := 0 }
abbrev Q_X2_add (D : va_G) (cI : ClassId) (l0 l1 l2 l3 l4 l5 : Nat) (lc : Int32) (lk : AA) (ln : AA) (lt : AA) (ll : AA) (lr : AA) (a1 a2 a3 a4 : Int32) (A : Nat → Prop) : Array Value → State → Outcome → State → Prop := va_Qv (S := Int32 × AA × AA × AA × AA) (fun u => f_X2_add lc lk ln lt ll a1 a2 a3 a4 = u) (fun u t => QW D [(cI, .int)] A (W_X2 cI l0 l1 l2 l3 l4 l5 u.1 u.2.1 u.2.2.1 u.2.2.2.1 u.2.2.2.2 lr) t) A
set_option maxHeartbeats 4000000 in
set_option maxRecDepth 100000 in
theorem c_X2_add (l : Launch)  (D : va_G) (cI : ClassId) (l0 l1 l2 l3 l4 l5 : Nat) (lc : Int32) (lk : AA) (ln : AA) (lt : AA) (ll : AA) (lr : AA) (sz : Nat) (a1 a2 a3 a4 : Int32) (hp : p_X2_add lc) : Met l yX2_add wsX2_add rm_X2_add (va_Pc [.ref l0, .int a1, .int a2, .int a3, .int a4] (PW D [(cI, .int)] sz (W_X2 cI l0 l1 l2 l3 l4 l5 lc lk ln lt ll lr))) (Q_X2_add D cI l0 l1 l2 l3 l4 l5 lc lk ln lt ll lr a1 a2 a3 a4 (va_A (W_X2 cI l0 l1 l2 l3 l4 l5 lc lk ln lt ll lr) sz)) 0 0 (va_A (W_X2 cI l0 l1 l2 l3 l4 l5 lc lk ln lt ll lr) sz) := by
  refine Met.ofW (cc := cX2_add) (maxL := 5) (ret := none) (by decide) rfl ?_
  intro p e s m args below meth c s₁ B hml hv
  obtain ⟨rfl, hsz, hP, hK, hD0, hN⟩ := hv
  have hx := B.exec
  have hb := B.bytes
  have hr := B.returns
  have hts := atoms_spec (ws := wsX2_add) B.pre
  have hown : s.vm.findClass RX2 = some m.cls := findClass_of_methodNamed B.named
  have hlocks := B.notSynchronized
  subst hsz
  have hD := hD0.self (sz := s.heap.size)
  generalize hAe : va_A (W_X2 cI l0 l1 l2 l3 l4 l5 lc lk ln lt ll lr) s.heap.size = A at hD ⊢
  have hA : ∀ q : Nat, s.heap.size ≤ q → A q := fun q h => by rw [← hAe]; exact Or.inr h
  have hS : va_S A s.heap s.heap [] := va_S.rf
  have hl := lv_entry ([.ref l0, .int a1, .int a2, .int a3, .int a4]) (n := 5) (Nat.le_of_ble_eq_true rfl)
  rw [lg_entry_eq]
  generalize (lg_sl ([.ref l0, .int a1, .int a2, .int a3, .int a4]) ++ List.replicate (5 - (lg_sl ([.ref l0, .int a1, .int a2, .int a3, .int a4])).length) Slot.unset).toArray = ls at hl ⊢
  have hl : lv_has ls 5 [(0, .ref l0), (1, .int a1), (2, .int a2), (3, .int a3), (4, .int a4)] := hl
  have he := f_X2_add.eq_1 lc lk ln lt ll a1 a2 a3 a4
  replace hp := Eq.mp (p_X2_add.eq_1 ..) hp
  refine lv_aload_n hx hb dX2_add_0 rfl (lv_at hl 0 rfl) ?_
  refine va_get (D := D) (ci := 2) (v := .ref l1) (C := RX2) (T := TX2) (N := 6) hx hb hts (by decide +kernel) hown hK hP 0 rfl rfl 0 (by decide) (hts (.fieldLink RX2 9 "Alarmgrove$Log" "kinds" "[I") (by decide +kernel)) (fun _ h9 => h9) rfl dX2_add_1 ?_
  refine lv_aload_n hx hb dX2_add_4 rfl (lv_at hl 0 rfl) ?_
  refine va_get (D := D) (ci := 2) (v := .int lc) (C := RX2) (T := TX2) (N := 6) hx hb hts (by decide +kernel) hown hK hP 0 rfl rfl 5 (by decide) (hts (.fieldLink RX2 27 "Alarmgrove$Log" "count" "I") (by decide +kernel)) (fun _ h9 => h9) rfl dX2_add_5 ?_
  refine lv_iload_n hx hb dX2_add_8 rfl (lv_at hl 1 rfl) ?_
  have h1 := hp.1
  replace hp := hp.2
  refine va_iast hx hb hK hP hD hS 1 0 rfl rfl h1 dX2_add_9 (fun H locs hP hD hS => ?_)
  have hP : va_P D vwCl (W_X2 cI l0 l1 l2 l3 l4 l5 lc (upd lk (lc).toNatClampNeg a1) ln lt ll lr) H := hP
  have hD : va_D A (W_X2 cI l0 l1 l2 l3 l4 l5 lc (upd lk (lc).toNatClampNeg a1) ln lt ll lr) := hD
  refine lv_aload_n hx hb dX2_add_10 rfl (lv_at hl 0 rfl) ?_
  refine va_get (D := D) (ci := 2) (v := .ref l2) (C := RX2) (T := TX2) (N := 6) hx hb hts (by decide +kernel) hown hK hP 0 rfl rfl 1 (by decide) (hts (.fieldLink RX2 15 "Alarmgrove$Log" "nodes" "[I") (by decide +kernel)) (fun _ h9 => h9) rfl dX2_add_11 ?_
  refine lv_aload_n hx hb dX2_add_14 rfl (lv_at hl 0 rfl) ?_
  refine va_get (D := D) (ci := 2) (v := .int lc) (C := RX2) (T := TX2) (N := 6) hx hb hts (by decide +kernel) hown hK hP 0 rfl rfl 5 (by decide) (hts (.fieldLink RX2 27 "Alarmgrove$Log" "count" "I") (by decide +kernel)) (fun _ h9 => h9) rfl dX2_add_15 ?_
  refine lv_iload_n hx hb dX2_add_18 rfl (lv_at hl 2 rfl) ?_
  have h2 := hp.1
  replace hp := hp.2
  refine va_iast hx hb hK hP hD hS 2 0 rfl rfl h2 dX2_add_19 (fun H locs hP hD hS => ?_)
  have hP : va_P D vwCl (W_X2 cI l0 l1 l2 l3 l4 l5 lc (upd lk (lc).toNatClampNeg a1) (upd ln (lc).toNatClampNeg a2) lt ll lr) H := hP
  have hD : va_D A (W_X2 cI l0 l1 l2 l3 l4 l5 lc (upd lk (lc).toNatClampNeg a1) (upd ln (lc).toNatClampNeg a2) lt ll lr) := hD
  refine lv_aload_n hx hb dX2_add_20 rfl (lv_at hl 0 rfl) ?_
  refine va_get (D := D) (ci := 2) (v := .ref l3) (C := RX2) (T := TX2) (N := 6) hx hb hts (by decide +kernel) hown hK hP 0 rfl rfl 2 (by decide) (hts (.fieldLink RX2 18 "Alarmgrove$Log" "times" "[I") (by decide +kernel)) (fun _ h9 => h9) rfl dX2_add_21 ?_
  refine lv_aload_n hx hb dX2_add_24 rfl (lv_at hl 0 rfl) ?_
  refine va_get (D := D) (ci := 2) (v := .int lc) (C := RX2) (T := TX2) (N := 6) hx hb hts (by decide +kernel) hown hK hP 0 rfl rfl 5 (by decide) (hts (.fieldLink RX2 27 "Alarmgrove$Log" "count" "I") (by decide +kernel)) (fun _ h9 => h9) rfl dX2_add_25 ?_
  refine lv_iload_n hx hb dX2_add_28 rfl (lv_at hl 3 rfl) ?_
  have h3 := hp.1
  replace hp := hp.2
  refine va_iast hx hb hK hP hD hS 3 0 rfl rfl h3 dX2_add_29 (fun H locs hP hD hS => ?_)
  have hP : va_P D vwCl (W_X2 cI l0 l1 l2 l3 l4 l5 lc (upd lk (lc).toNatClampNeg a1) (upd ln (lc).toNatClampNeg a2) (upd lt (lc).toNatClampNeg a3) ll lr) H := hP
  have hD : va_D A (W_X2 cI l0 l1 l2 l3 l4 l5 lc (upd lk (lc).toNatClampNeg a1) (upd ln (lc).toNatClampNeg a2) (upd lt (lc).toNatClampNeg a3) ll lr) := hD
  refine lv_aload_n hx hb dX2_add_30 rfl (lv_at hl 0 rfl) ?_
  refine va_get (D := D) (ci := 2) (v := .ref l4) (C := RX2) (T := TX2) (N := 6) hx hb hts (by decide +kernel) hown hK hP 0 rfl rfl 3 (by decide) (hts (.fieldLink RX2 21 "Alarmgrove$Log" "lengths" "[I") (by decide +kernel)) (fun _ h9 => h9) rfl dX2_add_31 ?_
  refine lv_aload_n hx hb dX2_add_34 rfl (lv_at hl 0 rfl) ?_
  refine va_get (D := D) (ci := 2) (v := .int lc) (C := RX2) (T := TX2) (N := 6) hx hb hts (by decide +kernel) hown hK hP 0 rfl rfl 5 (by decide) (hts (.fieldLink RX2 27 "Alarmgrove$Log" "count" "I") (by decide +kernel)) (fun _ h9 => h9) rfl dX2_add_35 ?_
  refine lv_iload hx hb dX2_add_38 (lv_at hl 4 rfl) ?_
  have h4 := hp.1
  replace hp := hp.2
  refine va_iast hx hb hK hP hD hS 4 0 rfl rfl h4 dX2_add_40 (fun H locs hP hD hS => ?_)
  have hP : va_P D vwCl (W_X2 cI l0 l1 l2 l3 l4 l5 lc (upd lk (lc).toNatClampNeg a1) (upd ln (lc).toNatClampNeg a2) (upd lt (lc).toNatClampNeg a3) (upd ll (lc).toNatClampNeg a4) lr) H := hP
  have hD : va_D A (W_X2 cI l0 l1 l2 l3 l4 l5 lc (upd lk (lc).toNatClampNeg a1) (upd ln (lc).toNatClampNeg a2) (upd lt (lc).toNatClampNeg a3) (upd ll (lc).toNatClampNeg a4) lr) := hD
  refine lv_aload_n hx hb dX2_add_41 rfl (lv_at hl 0 rfl) ?_
  refine lv_dup hx hb dX2_add_42 rfl ?_
  refine va_get (D := D) (ci := 2) (v := .int lc) (C := RX2) (T := TX2) (N := 6) hx hb hts (by decide +kernel) hown hK hP 0 rfl rfl 5 (by decide) (hts (.fieldLink RX2 27 "Alarmgrove$Log" "count" "I") (by decide +kernel)) (fun _ h9 => h9) rfl dX2_add_43 ?_
  refine lv_iconst (v := 1) hx hb dX2_add_46 (by decide) ?_
  refine lv_iadd hx hb dX2_add_47 ?_
  refine va_put (D := D) (ci := 2) (v := .int (lc + 1)) (ty := .int) (C := RX2) (T := TX2) (N := 6) hx hb hts (by decide +kernel) tyX2 tyX2_ok nmX2 hown hK hP hD hS 0 rfl rfl 5 (by decide) (hts (.fieldLink RX2 27 "Alarmgrove$Log" "count" "I") (by decide +kernel)) (fun _ h9 => h9) rfl (by decide +kernel) rfl rfl (Nat.le_of_ble_eq_true rfl) dX2_add_48 (fun H locs hP hD hS => ?_)
  have hP : va_P D vwCl (W_X2 cI l0 l1 l2 l3 l4 l5 (lc + 1) (upd lk (lc).toNatClampNeg a1) (upd ln (lc).toNatClampNeg a2) (upd lt (lc).toNatClampNeg a3) (upd ll (lc).toNatClampNeg a4) lr) H := hP
  have hD : va_D A (W_X2 cI l0 l1 l2 l3 l4 l5 (lc + 1) (upd lk (lc).toNatClampNeg a1) (upd ln (lc).toNatClampNeg a2) (upd lt (lc).toNatClampNeg a3) (upd ll (lc).toNatClampNeg a4) lr) := hD
  exact W.vret hx hb hr (fun t ht hW => ⟨⟨((lc + 1), (upd lk (lc).toNatClampNeg a1), (upd ln (lc).toNatClampNeg a2), (upd lt (lc).toNatClampNeg a3), (upd ll (lc).toNatClampNeg a4)), rfl, he, by rw [ht]; exact hP, va_K.moved hW.alike hK, hD⟩, hS.F ht⟩) hS.2.2 dX2_add_51
abbrev rm_X2_addRaise : Room := { frames := 1, cells := 0, slots := 0, locals := 24 }
abbrev Q_X2_addRaise (D : va_G) (cI : ClassId) (l0 l1 l2 l3 l4 l5 : Nat) (lc : Int32) (lk : AA) (ln : AA) (lt : AA) (ll : AA) (lr : AA) (a1 a2 : Int32) (A : Nat → Prop) : Array Value → State → Outcome → State → Prop := va_Qv (S := Int32 × AA × AA × AA × AA × AA) (fun u => f_X2_addRaise lc lk ln lt ll lr a1 a2 = u) (fun u t => QW D [(cI, .int)] A (W_X2 cI l0 l1 l2 l3 l4 l5 u.1 u.2.1 u.2.2.1 u.2.2.2.1 u.2.2.2.2.1 u.2.2.2.2.2) t) A
set_option maxHeartbeats 4000000 in
set_option maxRecDepth 100000 in
theorem c_X2_addRaise (l : Launch)  (D : va_G) (cI : ClassId) (l0 l1 l2 l3 l4 l5 : Nat) (lc : Int32) (lk : AA) (ln : AA) (lt : AA) (ll : AA) (lr : AA) (sz : Nat) (a1 a2 : Int32) (hp : p_X2_addRaise lc lk ln lt ll a1 a2) : Met l yX2_addRaise wsX2_addRaise rm_X2_addRaise (va_Pc [.ref l0, .int a1, .int a2] (PW D [(cI, .int)] sz (W_X2 cI l0 l1 l2 l3 l4 l5 lc lk ln lt ll lr))) (Q_X2_addRaise D cI l0 l1 l2 l3 l4 l5 lc lk ln lt ll lr a1 a2 (va_A (W_X2 cI l0 l1 l2 l3 l4 l5 lc lk ln lt ll lr) sz)) 0 0 (va_A (W_X2 cI l0 l1 l2 l3 l4 l5 lc lk ln lt ll lr) sz) := by
  refine Met.ofW (cc := cX2_addRaise) (maxL := 3) (ret := none) (by decide) rfl ?_
  intro p e s m args below meth c s₁ B hml hv
  obtain ⟨rfl, hsz, hP, hK, hD0, hN⟩ := hv
  have hx := B.exec
  have hb := B.bytes
  have hr := B.returns
  have hts := atoms_spec (ws := wsX2_addRaise) B.pre
  have hown : s.vm.findClass RX2 = some m.cls := findClass_of_methodNamed B.named
  have hlocks := B.notSynchronized
  subst hsz
  have hD := hD0.self (sz := s.heap.size)
  generalize hAe : va_A (W_X2 cI l0 l1 l2 l3 l4 l5 lc lk ln lt ll lr) s.heap.size = A at hD ⊢
  have hA : ∀ q : Nat, s.heap.size ≤ q → A q := fun q h => by rw [← hAe]; exact Or.inr h
  have hS : va_S A s.heap s.heap [] := va_S.rf
  have hl := lv_entry ([.ref l0, .int a1, .int a2]) (n := 3) (Nat.le_of_ble_eq_true rfl)
  rw [lg_entry_eq]
  generalize (lg_sl ([.ref l0, .int a1, .int a2]) ++ List.replicate (3 - (lg_sl ([.ref l0, .int a1, .int a2])).length) Slot.unset).toArray = ls at hl ⊢
  have hl : lv_has ls 3 [(0, .ref l0), (1, .int a1), (2, .int a2)] := hl
  have he := f_X2_addRaise.eq_1 lc lk ln lt ll lr a1 a2
  replace hp := Eq.mp (p_X2_addRaise.eq_1 ..) hp
  refine lv_aload_n hx hb dX2_addRaise_0 rfl (lv_at hl 0 rfl) ?_
  refine va_get (D := D) (ci := 2) (v := .ref l5) (C := RX2) (T := TX2) (N := 6) hx hb hts (by decide +kernel) hown hK hP 0 rfl rfl 4 (by decide) (hts (.fieldLink RX2 24 "Alarmgrove$Log" "raisedAt" "[I") (by decide +kernel)) (fun _ h9 => h9) rfl dX2_addRaise_1 ?_
  refine lv_iload_n hx hb dX2_addRaise_4 rfl (lv_at hl 1 rfl) ?_
  refine lv_iload_n hx hb dX2_addRaise_5 rfl (lv_at hl 2 rfl) ?_
  have h1 := hp.1
  replace hp := hp.2
  refine va_iast hx hb hK hP hD hS 5 0 rfl rfl h1 dX2_addRaise_6 (fun H locs hP hD hS => ?_)
  have hP : va_P D vwCl (W_X2 cI l0 l1 l2 l3 l4 l5 lc lk ln lt ll (upd lr (a1).toNatClampNeg a2)) H := hP
  have hD : va_D A (W_X2 cI l0 l1 l2 l3 l4 l5 lc lk ln lt ll (upd lr (a1).toNatClampNeg a2)) := hD
  refine lv_aload_n hx hb dX2_addRaise_7 rfl (lv_at hl 0 rfl) ?_
  refine lv_iconst (v := 0) hx hb dX2_addRaise_8 (by decide) ?_
  refine lv_iload_n hx hb dX2_addRaise_9 rfl (lv_at hl 1 rfl) ?_
  refine lv_iload_n hx hb dX2_addRaise_10 rfl (lv_at hl 2 rfl) ?_
  refine lv_iconst (v := (-1)) hx hb dX2_addRaise_11 (by decide) ?_
  have hq2 := hp.1
  replace hp := hp.2
  refine k_callv (S := Int32 × AA × AA × AA × AA) (wc := (W_X2 cI l0 l1 l2 l3 l4 l5 lc lk ln lt ll (upd lr (a1).toNatClampNeg a2))) (wr := ([] : va_W)) (w1 := fun u => (W_X2 cI l0 l1 l2 l3 l4 l5 u.1 u.2.1 u.2.2.1 u.2.2.2.1 u.2.2.2.2 (upd lr (a1).toNatClampNeg a2))) (fun u => (W_X2 cI l0 l1 l2 l3 l4 l5 u.1 u.2.1 u.2.2.1 u.2.2.2.1 u.2.2.2.2 (upd lr (a1).toNatClampNeg a2))) hP hK hD hN hS hA [0, 1, 2, 3, 4, 5] [] rfl rfl (by decide) (by decide) (by decide) [0, 1, 2, 3, 4, 5] (by decide) (fun _ => rfl) (fun hg => va_runV (As := [.int 0, .int a1, .int a2, .int (-1)]) (rest := []) ⟨hx, hb, hml, hown, hts⟩ (c_X2_add l D cI l0 l1 l2 l3 l4 l5 lc lk ln lt ll (upd lr (a1).toNatClampNeg a2) _ 0 a1 a2 (-1) hq2) (cwV 4 hts gX2_addRaise_X2_add rfl rfl rfl (by decide +kernel) ⟨Nat.le_of_ble_eq_true rfl, Nat.le_of_ble_eq_true rfl⟩) ⟨PW.blind, va_recv hK hP (ci := 2) (q0 := 0) rfl rfl, fun U hU hW => ⟨rfl, hg U hU hW⟩⟩ rfl rfl hl.1 rfl (lv_room (Nat.le_of_ble_eq_true rfl)) dX2_addRaise_12 ⟨Nat.le_of_ble_eq_true rfl, Nat.le_of_ble_eq_true rfl⟩) (fun u H locs hw hP hD hS => ?_)
  obtain ⟨u2_0, u2_1, u2_2, u2_3, u2_4⟩ := u
  rw [hw] at he
  try dsimp only at he
  replace hp := hp u2_0 u2_1 u2_2 u2_3 u2_4 hw
  have hP : va_P D vwCl (W_X2 cI l0 l1 l2 l3 l4 l5 u2_0 u2_1 u2_2 u2_3 u2_4 (upd lr (a1).toNatClampNeg a2)) H := hP
  have hD : va_D A (W_X2 cI l0 l1 l2 l3 l4 l5 u2_0 u2_1 u2_2 u2_3 u2_4 (upd lr (a1).toNatClampNeg a2)) := hD
  exact W.vret hx hb hr (fun t ht hW => ⟨⟨(u2_0, u2_1, u2_2, u2_3, u2_4, (upd lr (a1).toNatClampNeg a2)), rfl, he, by rw [ht]; exact hP, va_K.moved hW.alike hK, hD⟩, hS.F ht⟩) hS.2.2 dX2_addRaise_15
abbrev rm_X2_addClear : Room := { frames := 1, cells := 0, slots := 0, locals := 24 }
abbrev Q_X2_addClear (D : va_G) (cI : ClassId) (l0 l1 l2 l3 l4 l5 : Nat) (lc : Int32) (lk : AA) (ln : AA) (lt : AA) (ll : AA) (lr : AA) (a1 a2 : Int32) (A : Nat → Prop) : Array Value → State → Outcome → State → Prop := va_Qv (S := Int32 × AA × AA × AA × AA) (fun u => f_X2_addClear lc lk ln lt ll lr a1 a2 = u) (fun u t => QW D [(cI, .int)] A (W_X2 cI l0 l1 l2 l3 l4 l5 u.1 u.2.1 u.2.2.1 u.2.2.2.1 u.2.2.2.2 lr) t) A
set_option maxHeartbeats 4000000 in
set_option maxRecDepth 100000 in
theorem c_X2_addClear (l : Launch)  (D : va_G) (cI : ClassId) (l0 l1 l2 l3 l4 l5 : Nat) (lc : Int32) (lk : AA) (ln : AA) (lt : AA) (ll : AA) (lr : AA) (sz : Nat) (a1 a2 : Int32) (hp : p_X2_addClear lc lk ln lt ll lr a1 a2) : Met l yX2_addClear wsX2_addClear rm_X2_addClear (va_Pc [.ref l0, .int a1, .int a2] (PW D [(cI, .int)] sz (W_X2 cI l0 l1 l2 l3 l4 l5 lc lk ln lt ll lr))) (Q_X2_addClear D cI l0 l1 l2 l3 l4 l5 lc lk ln lt ll lr a1 a2 (va_A (W_X2 cI l0 l1 l2 l3 l4 l5 lc lk ln lt ll lr) sz)) 0 0 (va_A (W_X2 cI l0 l1 l2 l3 l4 l5 lc lk ln lt ll lr) sz) := by
  refine Met.ofW (cc := cX2_addClear) (maxL := 3) (ret := none) (by decide) rfl ?_
  intro p e s m args below meth c s₁ B hml hv
  obtain ⟨rfl, hsz, hP, hK, hD0, hN⟩ := hv
  have hx := B.exec
  have hb := B.bytes
  have hr := B.returns
  have hts := atoms_spec (ws := wsX2_addClear) B.pre
  have hown : s.vm.findClass RX2 = some m.cls := findClass_of_methodNamed B.named
  have hlocks := B.notSynchronized
  subst hsz
  have hD := hD0.self (sz := s.heap.size)
  generalize hAe : va_A (W_X2 cI l0 l1 l2 l3 l4 l5 lc lk ln lt ll lr) s.heap.size = A at hD ⊢
  have hA : ∀ q : Nat, s.heap.size ≤ q → A q := fun q h => by rw [← hAe]; exact Or.inr h
  have hS : va_S A s.heap s.heap [] := va_S.rf
  have hl := lv_entry ([.ref l0, .int a1, .int a2]) (n := 3) (Nat.le_of_ble_eq_true rfl)
  rw [lg_entry_eq]
  generalize (lg_sl ([.ref l0, .int a1, .int a2]) ++ List.replicate (3 - (lg_sl ([.ref l0, .int a1, .int a2])).length) Slot.unset).toArray = ls at hl ⊢
  have hl : lv_has ls 3 [(0, .ref l0), (1, .int a1), (2, .int a2)] := hl
  have he := f_X2_addClear.eq_1 lc lk ln lt ll lr a1 a2
  replace hp := Eq.mp (p_X2_addClear.eq_1 ..) hp
  refine lv_aload_n hx hb dX2_addClear_0 rfl (lv_at hl 0 rfl) ?_
  refine lv_iconst (v := 1) hx hb dX2_addClear_1 (by decide) ?_
  refine lv_iload_n hx hb dX2_addClear_2 rfl (lv_at hl 1 rfl) ?_
  refine lv_iload_n hx hb dX2_addClear_3 rfl (lv_at hl 2 rfl) ?_
  refine lv_iload_n hx hb dX2_addClear_4 rfl (lv_at hl 2 rfl) ?_
  refine lv_aload_n hx hb dX2_addClear_5 rfl (lv_at hl 0 rfl) ?_
  refine va_get (D := D) (ci := 2) (v := .ref l5) (C := RX2) (T := TX2) (N := 6) hx hb hts (by decide +kernel) hown hK hP 0 rfl rfl 4 (by decide) (hts (.fieldLink RX2 24 "Alarmgrove$Log" "raisedAt" "[I") (by decide +kernel)) (fun _ h9 => h9) rfl dX2_addClear_6 ?_
  refine lv_iload_n hx hb dX2_addClear_9 rfl (lv_at hl 1 rfl) ?_
  have h1 := hp.1
  replace hp := hp.2
  refine va_iald hx hb hK hP 5 0 rfl rfl h1 dX2_addClear_10 ?_
  refine lv_isub hx hb dX2_addClear_11 ?_
  have hq2 := hp.1
  replace hp := hp.2
  refine k_callv (S := Int32 × AA × AA × AA × AA) (wc := (W_X2 cI l0 l1 l2 l3 l4 l5 lc lk ln lt ll lr)) (wr := ([] : va_W)) (w1 := fun u => (W_X2 cI l0 l1 l2 l3 l4 l5 u.1 u.2.1 u.2.2.1 u.2.2.2.1 u.2.2.2.2 lr)) (fun u => (W_X2 cI l0 l1 l2 l3 l4 l5 u.1 u.2.1 u.2.2.1 u.2.2.2.1 u.2.2.2.2 lr)) hP hK hD hN hS hA [0, 1, 2, 3, 4, 5] [] rfl rfl (by decide) (by decide) (by decide) [0, 1, 2, 3, 4, 5] (by decide) (fun _ => rfl) (fun hg => va_runV (As := [.int 1, .int a1, .int a2, .int (a2 - (lr (a1).toNatClampNeg))]) (rest := []) ⟨hx, hb, hml, hown, hts⟩ (c_X2_add l D cI l0 l1 l2 l3 l4 l5 lc lk ln lt ll lr _ 1 a1 a2 (a2 - (lr (a1).toNatClampNeg)) hq2) (cwV 4 hts gX2_addClear_X2_add rfl rfl rfl (by decide +kernel) ⟨Nat.le_of_ble_eq_true rfl, Nat.le_of_ble_eq_true rfl⟩) ⟨PW.blind, va_recv hK hP (ci := 2) (q0 := 0) rfl rfl, fun U hU hW => ⟨rfl, hg U hU hW⟩⟩ rfl rfl hl.1 rfl (lv_room (Nat.le_of_ble_eq_true rfl)) dX2_addClear_12 ⟨Nat.le_of_ble_eq_true rfl, Nat.le_of_ble_eq_true rfl⟩) (fun u H locs hw hP hD hS => ?_)
  obtain ⟨u2_0, u2_1, u2_2, u2_3, u2_4⟩ := u
  rw [hw] at he
  try dsimp only at he
  replace hp := hp u2_0 u2_1 u2_2 u2_3 u2_4 hw
  have hP : va_P D vwCl (W_X2 cI l0 l1 l2 l3 l4 l5 u2_0 u2_1 u2_2 u2_3 u2_4 lr) H := hP
  have hD : va_D A (W_X2 cI l0 l1 l2 l3 l4 l5 u2_0 u2_1 u2_2 u2_3 u2_4 lr) := hD
  exact W.vret hx hb hr (fun t ht hW => ⟨⟨(u2_0, u2_1, u2_2, u2_3, u2_4), rfl, he, by rw [ht]; exact hP, va_K.moved hW.alike hK, hD⟩, hS.F ht⟩) hS.2.2 dX2_addClear_15
abbrev rm_X2_init : Room := { frames := 1, cells := 5, slots := 1214, locals := 12 }
abbrev Q_X2_init (D : va_G) (cI : ClassId) (l0 : Nat) (A : Nat → Prop) : Array Value → State → Outcome → State → Prop := va_Qv (S := (AA × AA × AA × AA × AA) × (Nat × Nat × Nat × Nat × Nat)) (fun u => f_X2_init = u.1) (fun u t => QW D [(cI, .int)] A (W_X2 cI l0 u.2.1 u.2.2.1 u.2.2.2.1 u.2.2.2.2.1 u.2.2.2.2.2 0 u.1.1 u.1.2.1 u.1.2.2.1 u.1.2.2.2.1 u.1.2.2.2.2) t) A
set_option maxHeartbeats 4000000 in
set_option maxRecDepth 100000 in
theorem c_X2_init (l : Launch)  (D : va_G) (cI : ClassId) (l0 : Nat) (sz : Nat) : Met l yX2_init wsX2_init rm_X2_init (va_Pc [.ref l0] (PW D [(cI, .int)] sz [(l0, .inr (2, [.null, .null, .null, .null, .null, .int 0]))])) (Q_X2_init D cI l0 (va_A [(l0, .inr (2, [.null, .null, .null, .null, .null, .int 0]))] sz)) 5 1214 (va_A [(l0, .inr (2, [.null, .null, .null, .null, .null, .int 0]))] sz) := by
  refine Met.ofW (cc := cX2_init) (maxL := 1) (ret := none) (by decide) rfl ?_
  intro p e s m args below meth c s₁ B hml hv
  obtain ⟨rfl, hsz, hP, hK, hD0, hN⟩ := hv
  have hx := B.exec
  have hb := B.bytes
  have hr := B.returns
  have hts := atoms_spec (ws := wsX2_init) B.pre
  have hown : s.vm.findClass RX2 = some m.cls := findClass_of_methodNamed B.named
  have hlocks := B.notSynchronized
  have hin : meth.name = "<init>" := (name_of_methodNamed B.named B.method).1
  subst hsz
  have hD := hD0.self (sz := s.heap.size)
  generalize hAe : va_A [(l0, .inr (2, [.null, .null, .null, .null, .null, .int 0]))] s.heap.size = A at hD ⊢
  have hA : ∀ q : Nat, s.heap.size ≤ q → A q := fun q h => by rw [← hAe]; exact Or.inr h
  have hS : va_S A s.heap s.heap [] := va_S.rf
  have hl := lv_entry ([.ref l0]) (n := 1) (Nat.le_of_ble_eq_true rfl)
  rw [lg_entry_eq]
  generalize (lg_sl ([.ref l0]) ++ List.replicate (1 - (lg_sl ([.ref l0])).length) Slot.unset).toArray = ls at hl ⊢
  have hl : lv_has ls 1 [(0, .ref l0)] := hl
  have he := f_X2_init.eq_1
  refine lv_aload_n hx hb dX2_init_0 rfl (lv_at hl 0 rfl) ?_
  refine W.objInit hx hb hown (hts (.methodLink RX2 3 objectInit) (by decide +kernel)) (hts (.instanceMethod objectInit) (by decide +kernel)) (hts (.code objectInit ⟨#[0xb1]⟩ 1 none) (by decide +kernel)) rfl (by rw [hml]; exact hl.1) rfl dX2_init_1 (Nat.le_of_ble_eq_true rfl) (Nat.le_of_ble_eq_true rfl) ?_
  refine W.eq (g2 := F0 m 4 ls []) rfl ?_
  refine lv_aload_n hx hb dX2_init_4 rfl (lv_at hl 0 rfl) ?_
  refine lv_sipush (v := 300) hx hb dX2_init_5 (by decide) ?_
  refine k_newI (N' := 300) hx hb (hts (.arrayClass .int) (by decide +kernel)) hK hP hD hS hA (by decide) (by decide) (by decide) (Nat.le_of_ble_eq_true rfl) (Nat.le_of_ble_eq_true rfl) dX2_init_8 (fun q8 H hP hD hS => ?_)
  have hP : va_P D vwCl [(l0, .inr (2, [.null, .null, .null, .null, .null, .int 0])), (q8, .inl (cI, 300, .inl (fun _ => 0)))] H := hP
  have hD : va_D A [(l0, .inr (2, [.null, .null, .null, .null, .null, .int 0])), (q8, .inl (cI, 300, .inl (fun _ => 0)))] := hD
  refine va_putF (D := D) (ci := 2) (v := .ref q8) (ty := (.array .int)) (C := RX2) (T := TX2) (N := 6) hx hb hts (by decide +kernel) tyX2 tyX2_ok nmX2 hown hK hP hD hS 0 rfl rfl 0 (by decide) (hts (.fieldLink RX2 9 "Alarmgrove$Log" "kinds" "[I") (by decide +kernel)) (fun _ h9 => h9) rfl hin rfl (by decide +kernel) rfl rfl (Nat.le_of_ble_eq_true rfl) dX2_init_10 (fun H locs hP hD hS => ?_)
  have hP : va_P D vwCl [(l0, .inr (2, [.ref q8, .null, .null, .null, .null, .int 0])), (q8, .inl (cI, 300, .inl (fun _ => 0)))] H := hP
  have hD : va_D A [(l0, .inr (2, [.ref q8, .null, .null, .null, .null, .int 0])), (q8, .inl (cI, 300, .inl (fun _ => 0)))] := hD
  refine lv_aload_n hx hb dX2_init_13 rfl (lv_at hl 0 rfl) ?_
  refine lv_sipush (v := 300) hx hb dX2_init_14 (by decide) ?_
  refine k_newI (N' := 300) hx hb (hts (.arrayClass .int) (by decide +kernel)) hK hP hD hS hA (by decide) (by decide) (by decide) (Nat.le_of_ble_eq_true rfl) (Nat.le_of_ble_eq_true rfl) dX2_init_17 (fun q17 H hP hD hS => ?_)
  have hP : va_P D vwCl [(l0, .inr (2, [.ref q8, .null, .null, .null, .null, .int 0])), (q8, .inl (cI, 300, .inl (fun _ => 0))), (q17, .inl (cI, 300, .inl (fun _ => 0)))] H := hP
  have hD : va_D A [(l0, .inr (2, [.ref q8, .null, .null, .null, .null, .int 0])), (q8, .inl (cI, 300, .inl (fun _ => 0))), (q17, .inl (cI, 300, .inl (fun _ => 0)))] := hD
  refine va_putF (D := D) (ci := 2) (v := .ref q17) (ty := (.array .int)) (C := RX2) (T := TX2) (N := 6) hx hb hts (by decide +kernel) tyX2 tyX2_ok nmX2 hown hK hP hD hS 0 rfl rfl 1 (by decide) (hts (.fieldLink RX2 15 "Alarmgrove$Log" "nodes" "[I") (by decide +kernel)) (fun _ h9 => h9) rfl hin rfl (by decide +kernel) rfl rfl (Nat.le_of_ble_eq_true rfl) dX2_init_19 (fun H locs hP hD hS => ?_)
  have hP : va_P D vwCl [(l0, .inr (2, [.ref q8, .ref q17, .null, .null, .null, .int 0])), (q8, .inl (cI, 300, .inl (fun _ => 0))), (q17, .inl (cI, 300, .inl (fun _ => 0)))] H := hP
  have hD : va_D A [(l0, .inr (2, [.ref q8, .ref q17, .null, .null, .null, .int 0])), (q8, .inl (cI, 300, .inl (fun _ => 0))), (q17, .inl (cI, 300, .inl (fun _ => 0)))] := hD
  refine lv_aload_n hx hb dX2_init_22 rfl (lv_at hl 0 rfl) ?_
  refine lv_sipush (v := 300) hx hb dX2_init_23 (by decide) ?_
  refine k_newI (N' := 300) hx hb (hts (.arrayClass .int) (by decide +kernel)) hK hP hD hS hA (by decide) (by decide) (by decide) (Nat.le_of_ble_eq_true rfl) (Nat.le_of_ble_eq_true rfl) dX2_init_26 (fun q26 H hP hD hS => ?_)
  have hP : va_P D vwCl [(l0, .inr (2, [.ref q8, .ref q17, .null, .null, .null, .int 0])), (q8, .inl (cI, 300, .inl (fun _ => 0))), (q17, .inl (cI, 300, .inl (fun _ => 0))), (q26, .inl (cI, 300, .inl (fun _ => 0)))] H := hP
  have hD : va_D A [(l0, .inr (2, [.ref q8, .ref q17, .null, .null, .null, .int 0])), (q8, .inl (cI, 300, .inl (fun _ => 0))), (q17, .inl (cI, 300, .inl (fun _ => 0))), (q26, .inl (cI, 300, .inl (fun _ => 0)))] := hD
  refine va_putF (D := D) (ci := 2) (v := .ref q26) (ty := (.array .int)) (C := RX2) (T := TX2) (N := 6) hx hb hts (by decide +kernel) tyX2 tyX2_ok nmX2 hown hK hP hD hS 0 rfl rfl 2 (by decide) (hts (.fieldLink RX2 18 "Alarmgrove$Log" "times" "[I") (by decide +kernel)) (fun _ h9 => h9) rfl hin rfl (by decide +kernel) rfl rfl (Nat.le_of_ble_eq_true rfl) dX2_init_28 (fun H locs hP hD hS => ?_)
  have hP : va_P D vwCl [(l0, .inr (2, [.ref q8, .ref q17, .ref q26, .null, .null, .int 0])), (q8, .inl (cI, 300, .inl (fun _ => 0))), (q17, .inl (cI, 300, .inl (fun _ => 0))), (q26, .inl (cI, 300, .inl (fun _ => 0)))] H := hP
  have hD : va_D A [(l0, .inr (2, [.ref q8, .ref q17, .ref q26, .null, .null, .int 0])), (q8, .inl (cI, 300, .inl (fun _ => 0))), (q17, .inl (cI, 300, .inl (fun _ => 0))), (q26, .inl (cI, 300, .inl (fun _ => 0)))] := hD
  refine lv_aload_n hx hb dX2_init_31 rfl (lv_at hl 0 rfl) ?_
  refine lv_sipush (v := 300) hx hb dX2_init_32 (by decide) ?_
  refine k_newI (N' := 300) hx hb (hts (.arrayClass .int) (by decide +kernel)) hK hP hD hS hA (by decide) (by decide) (by decide) (Nat.le_of_ble_eq_true rfl) (Nat.le_of_ble_eq_true rfl) dX2_init_35 (fun q35 H hP hD hS => ?_)
  have hP : va_P D vwCl [(l0, .inr (2, [.ref q8, .ref q17, .ref q26, .null, .null, .int 0])), (q8, .inl (cI, 300, .inl (fun _ => 0))), (q17, .inl (cI, 300, .inl (fun _ => 0))), (q26, .inl (cI, 300, .inl (fun _ => 0))), (q35, .inl (cI, 300, .inl (fun _ => 0)))] H := hP
  have hD : va_D A [(l0, .inr (2, [.ref q8, .ref q17, .ref q26, .null, .null, .int 0])), (q8, .inl (cI, 300, .inl (fun _ => 0))), (q17, .inl (cI, 300, .inl (fun _ => 0))), (q26, .inl (cI, 300, .inl (fun _ => 0))), (q35, .inl (cI, 300, .inl (fun _ => 0)))] := hD
  refine va_putF (D := D) (ci := 2) (v := .ref q35) (ty := (.array .int)) (C := RX2) (T := TX2) (N := 6) hx hb hts (by decide +kernel) tyX2 tyX2_ok nmX2 hown hK hP hD hS 0 rfl rfl 3 (by decide) (hts (.fieldLink RX2 21 "Alarmgrove$Log" "lengths" "[I") (by decide +kernel)) (fun _ h9 => h9) rfl hin rfl (by decide +kernel) rfl rfl (Nat.le_of_ble_eq_true rfl) dX2_init_37 (fun H locs hP hD hS => ?_)
  have hP : va_P D vwCl [(l0, .inr (2, [.ref q8, .ref q17, .ref q26, .ref q35, .null, .int 0])), (q8, .inl (cI, 300, .inl (fun _ => 0))), (q17, .inl (cI, 300, .inl (fun _ => 0))), (q26, .inl (cI, 300, .inl (fun _ => 0))), (q35, .inl (cI, 300, .inl (fun _ => 0)))] H := hP
  have hD : va_D A [(l0, .inr (2, [.ref q8, .ref q17, .ref q26, .ref q35, .null, .int 0])), (q8, .inl (cI, 300, .inl (fun _ => 0))), (q17, .inl (cI, 300, .inl (fun _ => 0))), (q26, .inl (cI, 300, .inl (fun _ => 0))), (q35, .inl (cI, 300, .inl (fun _ => 0)))] := hD
  refine lv_aload_n hx hb dX2_init_40 rfl (lv_at hl 0 rfl) ?_
  refine lv_bipush (v := 14) hx hb dX2_init_41 (by decide) ?_
  refine k_newI (N' := 14) hx hb (hts (.arrayClass .int) (by decide +kernel)) hK hP hD hS hA (by decide) (by decide) (by decide) (Nat.le_of_ble_eq_true rfl) (Nat.le_of_ble_eq_true rfl) dX2_init_43 (fun q43 H hP hD hS => ?_)
  have hP : va_P D vwCl ([(l0, .inr (2, [.ref q8, .ref q17, .ref q26, .ref q35, .null, .int 0])), (q8, .inl (cI, 300, .inl (fun _ => 0))), (q17, .inl (cI, 300, .inl (fun _ => 0))), (q26, .inl (cI, 300, .inl (fun _ => 0))), (q35, .inl (cI, 300, .inl (fun _ => 0)))] ++ (W_A cI q43 (fun _ => 0))) H := hP
  have hD : va_D A ([(l0, .inr (2, [.ref q8, .ref q17, .ref q26, .ref q35, .null, .int 0])), (q8, .inl (cI, 300, .inl (fun _ => 0))), (q17, .inl (cI, 300, .inl (fun _ => 0))), (q26, .inl (cI, 300, .inl (fun _ => 0))), (q35, .inl (cI, 300, .inl (fun _ => 0)))] ++ (W_A cI q43 (fun _ => 0))) := hD
  refine va_putF (D := D) (ci := 2) (v := .ref q43) (ty := (.array .int)) (C := RX2) (T := TX2) (N := 6) hx hb hts (by decide +kernel) tyX2 tyX2_ok nmX2 hown hK hP hD hS 0 rfl rfl 4 (by decide) (hts (.fieldLink RX2 24 "Alarmgrove$Log" "raisedAt" "[I") (by decide +kernel)) (fun _ h9 => h9) rfl hin rfl (by decide +kernel) rfl rfl (Nat.le_of_ble_eq_true rfl) dX2_init_45 (fun H locs hP hD hS => ?_)
  have hP : va_P D vwCl (W_X2 cI l0 q8 q17 q26 q35 q43 0 (fun _ => 0) (fun _ => 0) (fun _ => 0) (fun _ => 0) (fun _ => 0)) H := hP
  have hD : va_D A (W_X2 cI l0 q8 q17 q26 q35 q43 0 (fun _ => 0) (fun _ => 0) (fun _ => 0) (fun _ => 0) (fun _ => 0)) := hD
  refine lv_aload_n hx hb dX2_init_48 rfl (lv_at hl 0 rfl) ?_
  refine lv_iconst (v := 0) hx hb dX2_init_49 (by decide) ?_
  refine va_put (D := D) (ci := 2) (v := .int 0) (ty := .int) (C := RX2) (T := TX2) (N := 6) hx hb hts (by decide +kernel) tyX2 tyX2_ok nmX2 hown hK hP hD hS 0 rfl rfl 5 (by decide) (hts (.fieldLink RX2 27 "Alarmgrove$Log" "count" "I") (by decide +kernel)) (fun _ h9 => h9) rfl (by decide +kernel) rfl rfl (Nat.le_of_ble_eq_true rfl) dX2_init_50 (fun H locs hP hD hS => ?_)
  have hP : va_P D vwCl (W_X2 cI l0 q8 q17 q26 q35 q43 0 (fun _ => 0) (fun _ => 0) (fun _ => 0) (fun _ => 0) (fun _ => 0)) H := hP
  have hD : va_D A (W_X2 cI l0 q8 q17 q26 q35 q43 0 (fun _ => 0) (fun _ => 0) (fun _ => 0) (fun _ => 0) (fun _ => 0)) := hD
  exact W.vret hx hb hr (fun t ht hW => ⟨⟨(((fun _ => 0), (fun _ => 0), (fun _ => 0), (fun _ => 0), (fun _ => 0)), (q8, q17, q26, q35, q43)), rfl, he, by rw [ht]; exact hP, va_K.moved hW.alike hK, hD⟩, hS.F ht⟩) hS.2.2 dX2_init_53
abbrev rm_X3_isUsed : Room := { frames := 0, cells := 0, slots := 0, locals := 0 }
abbrev Q_X3_isUsed (D : va_G) (cI : ClassId) (t0 t1 t2 : Nat) (tw : Int32) (tn : AA) (tt : AA) (a1 : Int32) (A : Nat → Prop) : Array Value → State → Outcome → State → Prop := va_Qi (S := Unit) (fun r u => f_X3_isUsed tw a1 = r ∧ (r = 0 ∨ r = 1)) (fun u t => QW D [(cI, .int)] A (W_X3 cI t0 t1 t2 tw tn tt) t) A
set_option maxHeartbeats 4000000 in
set_option maxRecDepth 100000 in
theorem c_X3_isUsed (l : Launch)  (D : va_G) (cI : ClassId) (t0 t1 t2 : Nat) (tw : Int32) (tn : AA) (tt : AA) (sz : Nat) (a1 : Int32) : Met l yX3_isUsed wsX3_isUsed rm_X3_isUsed (va_Pc [.ref t0, .int a1] (PW D [(cI, .int)] sz (W_X3 cI t0 t1 t2 tw tn tt))) (Q_X3_isUsed D cI t0 t1 t2 tw tn tt a1 (va_A (W_X3 cI t0 t1 t2 tw tn tt) sz)) 0 0 (va_A (W_X3 cI t0 t1 t2 tw tn tt) sz) := by
  refine Met.ofW (cc := cX3_isUsed) (maxL := 2) (ret := (some .boolean)) (by decide) rfl ?_
  intro p e s m args below meth c s₁ B hml hv
  obtain ⟨rfl, hsz, hP, hK, hD0, hN⟩ := hv
  have hx := B.exec
  have hb := B.bytes
  have hr := B.returns
  have hts := atoms_spec (ws := wsX3_isUsed) B.pre
  have hown : s.vm.findClass RX3 = some m.cls := findClass_of_methodNamed B.named
  have hlocks := B.notSynchronized
  subst hsz
  have hD := hD0.self (sz := s.heap.size)
  generalize hAe : va_A (W_X3 cI t0 t1 t2 tw tn tt) s.heap.size = A at hD ⊢
  have hA : ∀ q : Nat, s.heap.size ≤ q → A q := fun q h => by rw [← hAe]; exact Or.inr h
  have hS : va_S A s.heap s.heap [] := va_S.rf
  have hl := lv_entry ([.ref t0, .int a1]) (n := 2) (Nat.le_of_ble_eq_true rfl)
  rw [lg_entry_eq]
  generalize (lg_sl ([.ref t0, .int a1]) ++ List.replicate (2 - (lg_sl ([.ref t0, .int a1])).length) Slot.unset).toArray = ls at hl ⊢
  have hl : lv_has ls 2 [(0, .ref t0), (1, .int a1)] := hl
  have he := f_X3_isUsed.eq_1 tw a1
  refine lv_iload_n hx hb dX3_isUsed_0 rfl (lv_at hl 1 rfl) ?_
  refine lv_iconst (v := 1) hx hb dX3_isUsed_1 (by decide) ?_
  obtain ⟨j1, hJ1⟩ : ∃ z : Int32, z = (if a1 < 1 then (0 : Int32) else (if tw < a1 then (0 : Int32) else (if 301 ≤ a1 then (0 : Int32) else (1 : Int32)))) := ⟨_, rfl⟩
  rw [← hJ1] at he
  try dsimp only at he
  have kont1 : (j1 = 0 ∨ j1 = 1) → ∀ (H : Heap) (locs : List Loc), va_P D vwCl (W_X3 cI t0 t1 t2 tw tn tt) H → va_D A (W_X3 cI t0 t1 t2 tw tn tt) → va_S A s.heap H locs → ∀ ls : Array Slot, lv_has ls 2 [] → W p l e (headSpec wsX3_isUsed rm_X3_isUsed).room s m ([.ref t0, .int a1] : List Value).toArray below meth c H locs 0 0 (MQ below (Q_X3_isUsed D cI t0 t1 t2 tw tn tt a1 A) ([.ref t0, .int a1] : List Value).toArray s 0 0 A) (F0 m 27 ls [.int j1]) := by
    intro hb1 H locs hP hD hS ls hl
    exact W.zret (ty := .boolean) (v := j1) hx hb hr (by rcases hb1 with h9 | h9 <;> rw [h9] <;> rfl) (fun t ht hW => ⟨⟨j1, (), rfl, ⟨he, hb1⟩, by rw [ht]; exact hP, va_K.moved hW.alike hK, hD⟩, hS.F ht⟩) hS.2.2 dX3_isUsed_27
  replace he := hJ1
  refine lv_icmp_lt (tgt := 26) hx hb dX3_isUsed_2 (by decide) (fun c2 => ?_) (fun c2 => ?_)
  · replace he := he.trans (if_pos c2)
    refine lv_iconst (v := 0) hx hb dX3_isUsed_26 (by decide) ?_
    subst he
    exact kont1 (Or.inl rfl) _ _ hP hD hS _ (lv_sub hl [] rfl)
  · replace he := he.trans (if_neg c2)
    refine lv_iload_n hx hb dX3_isUsed_5 rfl (lv_at hl 1 rfl) ?_
    refine lv_aload_n hx hb dX3_isUsed_6 rfl (lv_at hl 0 rfl) ?_
    refine va_get (D := D) (ci := 3) (v := .int tw) (C := RX3) (T := TX3) (N := 3) hx hb hts (by decide +kernel) hown hK hP 0 rfl rfl 2 (by decide) (hts (.fieldLink RX3 18 "Alarmgrove$Tickets" "newest" "I") (by decide +kernel)) (fun _ h9 => h9) rfl dX3_isUsed_7 ?_
    refine lv_icmp_gt (tgt := 26) hx hb dX3_isUsed_10 (by decide) (fun c3 => ?_) (fun c3 => ?_)
    · replace he := he.trans (if_pos c3)
      refine lv_iconst (v := 0) hx hb dX3_isUsed_26 (by decide) ?_
      subst he
      exact kont1 (Or.inl rfl) _ _ hP hD hS _ (lv_sub hl [] rfl)
    · replace he := he.trans (if_neg c3)
      refine lv_iload_n hx hb dX3_isUsed_13 rfl (lv_at hl 1 rfl) ?_
      refine lv_aload_n hx hb dX3_isUsed_14 rfl (lv_at hl 0 rfl) ?_
      refine va_get (D := D) (ci := 3) (v := .ref t2) (C := RX3) (T := TX3) (N := 3) hx hb hts (by decide +kernel) hown hK hP 0 rfl rfl 1 (by decide) (hts (.fieldLink RX3 15 "Alarmgrove$Tickets" "targets" "[I") (by decide +kernel)) (fun _ h9 => h9) rfl dX3_isUsed_15 ?_
      refine va_alen (v := 301) hx hb hK hP 2 0 rfl rfl rfl dX3_isUsed_18 ?_
      refine lv_icmp_ge (tgt := 26) hx hb dX3_isUsed_19 (by decide) (fun c4 => ?_) (fun c4 => ?_)
      · replace he := he.trans (if_pos c4)
        refine lv_iconst (v := 0) hx hb dX3_isUsed_26 (by decide) ?_
        subst he
        exact kont1 (Or.inl rfl) _ _ hP hD hS _ (lv_sub hl [] rfl)
      · replace he := he.trans (if_neg c4)
        refine lv_iconst (v := 1) hx hb dX3_isUsed_22 (by decide) ?_
        refine lv_goto (tgt := 27) hx hb dX3_isUsed_23 (by decide) ?_
        subst he
        exact kont1 (Or.inr rfl) _ _ hP hD hS _ (lv_sub hl [] rfl)
abbrev rm_X3_numberOf : Room := { frames := 0, cells := 0, slots := 0, locals := 0 }
abbrev Q_X3_numberOf (D : va_G) (cI : ClassId) (t0 t1 t2 : Nat) (tw : Int32) (tn : AA) (tt : AA) (a1 : Int32) (A : Nat → Prop) : Array Value → State → Outcome → State → Prop := va_Qi (S := Unit) (fun r u => f_X3_numberOf tn a1 = r) (fun u t => QW D [(cI, .int)] A (W_X3 cI t0 t1 t2 tw tn tt) t) A
set_option maxHeartbeats 4000000 in
set_option maxRecDepth 100000 in
theorem c_X3_numberOf (l : Launch)  (D : va_G) (cI : ClassId) (t0 t1 t2 : Nat) (tw : Int32) (tn : AA) (tt : AA) (sz : Nat) (a1 : Int32) (hp : p_X3_numberOf a1) : Met l yX3_numberOf wsX3_numberOf rm_X3_numberOf (va_Pc [.ref t0, .int a1] (PW D [(cI, .int)] sz (W_X3 cI t0 t1 t2 tw tn tt))) (Q_X3_numberOf D cI t0 t1 t2 tw tn tt a1 (va_A (W_X3 cI t0 t1 t2 tw tn tt) sz)) 0 0 (va_A (W_X3 cI t0 t1 t2 tw tn tt) sz) := by
  refine Met.ofW (cc := cX3_numberOf) (maxL := 2) (ret := (some .int)) (by decide) rfl ?_
  intro p e s m args below meth c s₁ B hml hv
  obtain ⟨rfl, hsz, hP, hK, hD0, hN⟩ := hv
  have hx := B.exec
  have hb := B.bytes
  have hr := B.returns
  have hts := atoms_spec (ws := wsX3_numberOf) B.pre
  have hown : s.vm.findClass RX3 = some m.cls := findClass_of_methodNamed B.named
  have hlocks := B.notSynchronized
  subst hsz
  have hD := hD0.self (sz := s.heap.size)
  generalize hAe : va_A (W_X3 cI t0 t1 t2 tw tn tt) s.heap.size = A at hD ⊢
  have hA : ∀ q : Nat, s.heap.size ≤ q → A q := fun q h => by rw [← hAe]; exact Or.inr h
  have hS : va_S A s.heap s.heap [] := va_S.rf
  have hl := lv_entry ([.ref t0, .int a1]) (n := 2) (Nat.le_of_ble_eq_true rfl)
  rw [lg_entry_eq]
  generalize (lg_sl ([.ref t0, .int a1]) ++ List.replicate (2 - (lg_sl ([.ref t0, .int a1])).length) Slot.unset).toArray = ls at hl ⊢
  have hl : lv_has ls 2 [(0, .ref t0), (1, .int a1)] := hl
  have he := f_X3_numberOf.eq_1 tn a1
  replace hp := Eq.mp (p_X3_numberOf.eq_1 ..) hp
  refine lv_aload_n hx hb dX3_numberOf_0 rfl (lv_at hl 0 rfl) ?_
  refine va_get (D := D) (ci := 3) (v := .ref t1) (C := RX3) (T := TX3) (N := 3) hx hb hts (by decide +kernel) hown hK hP 0 rfl rfl 0 (by decide) (hts (.fieldLink RX3 9 "Alarmgrove$Tickets" "numbers" "[I") (by decide +kernel)) (fun _ h9 => h9) rfl dX3_numberOf_1 ?_
  refine lv_iload_n hx hb dX3_numberOf_4 rfl (lv_at hl 1 rfl) ?_
  have h1 := hp.1
  replace hp := hp.2
  refine va_iald hx hb hK hP 1 0 rfl rfl h1 dX3_numberOf_5 ?_
  exact W.iret (v := (tn (a1).toNatClampNeg)) hx hb hr (fun t ht hW => ⟨⟨(tn (a1).toNatClampNeg), (), rfl, he, by rw [ht]; exact hP, va_K.moved hW.alike hK, hD⟩, hS.F ht⟩) hS.2.2 dX3_numberOf_6
abbrev rm_X3_sizeOf : Room := { frames := 1, cells := 0, slots := 0, locals := 21 }
abbrev Q_X3_sizeOf (D : va_G) (cI : ClassId) (t0 t1 t2 : Nat) (tw : Int32) (tn : AA) (tt : AA) (a1 : Int32) (A : Nat → Prop) : Array Value → State → Outcome → State → Prop := va_Qi (S := Unit) (fun r u => f_X3_sizeOf tw tn a1 = r) (fun u t => QW D [(cI, .int)] A (W_X3 cI t0 t1 t2 tw tn tt) t) A
set_option maxHeartbeats 4000000 in
set_option maxRecDepth 100000 in
theorem c_X3_sizeOf (l : Launch)  (D : va_G) (cI : ClassId) (t0 t1 t2 : Nat) (tw : Int32) (tn : AA) (tt : AA) (sz : Nat) (a1 : Int32) (hp : p_X3_sizeOf tw tn a1) : Met l yX3_sizeOf wsX3_sizeOf rm_X3_sizeOf (va_Pc [.ref t0, .int a1] (PW D [(cI, .int)] sz (W_X3 cI t0 t1 t2 tw tn tt))) (Q_X3_sizeOf D cI t0 t1 t2 tw tn tt a1 (va_A (W_X3 cI t0 t1 t2 tw tn tt) sz)) 0 0 (va_A (W_X3 cI t0 t1 t2 tw tn tt) sz) := by
  refine Met.ofW (cc := cX3_sizeOf) (maxL := 4) (ret := (some .int)) (by decide) rfl ?_
  intro p e s m args below meth c s₁ B hml hv
  obtain ⟨rfl, hsz, hP, hK, hD0, hN⟩ := hv
  have hx := B.exec
  have hb := B.bytes
  have hr := B.returns
  have hts := atoms_spec (ws := wsX3_sizeOf) B.pre
  have hown : s.vm.findClass RX3 = some m.cls := findClass_of_methodNamed B.named
  have hlocks := B.notSynchronized
  subst hsz
  have hD := hD0.self (sz := s.heap.size)
  generalize hAe : va_A (W_X3 cI t0 t1 t2 tw tn tt) s.heap.size = A at hD ⊢
  have hA : ∀ q : Nat, s.heap.size ≤ q → A q := fun q h => by rw [← hAe]; exact Or.inr h
  have hS : va_S A s.heap s.heap [] := va_S.rf
  have hl := lv_entry ([.ref t0, .int a1]) (n := 4) (Nat.le_of_ble_eq_true rfl)
  rw [lg_entry_eq]
  generalize (lg_sl ([.ref t0, .int a1]) ++ List.replicate (4 - (lg_sl ([.ref t0, .int a1])).length) Slot.unset).toArray = ls at hl ⊢
  have hl : lv_has ls 4 [(0, .ref t0), (1, .int a1)] := hl
  have he := f_X3_sizeOf.eq_1 tw tn a1
  replace hp := Eq.mp (p_X3_sizeOf.eq_1 ..) hp
  refine lv_aload_n hx hb dX3_sizeOf_0 rfl (lv_at hl 0 rfl) ?_
  refine lv_iload_n hx hb dX3_sizeOf_1 rfl (lv_at hl 1 rfl) ?_
  refine k_calli (S := Unit) (wc := (W_X3 cI t0 t1 t2 tw tn tt)) (wr := ([] : va_W)) (w1 := fun u => (W_X3 cI t0 t1 t2 tw tn tt)) (fun u => (W_X3 cI t0 t1 t2 tw tn tt)) hP hK hD hN hS hA [0, 1, 2] [] rfl rfl (by decide) (by decide) (by decide) [0, 1, 2] (by decide) (fun _ => rfl) (fun hg => va_runV (As := [.int a1]) (rest := []) ⟨hx, hb, hml, hown, hts⟩ (c_X3_isUsed l D cI t0 t1 t2 tw tn tt _ a1) (cwV 1 hts gX3_sizeOf_X3_isUsed rfl rfl rfl (by decide +kernel) ⟨Nat.le_of_ble_eq_true rfl, Nat.le_of_ble_eq_true rfl⟩) ⟨PW.blind, va_recv hK hP (ci := 3) (q0 := 0) rfl rfl, fun U hU hW => ⟨rfl, hg U hU hW⟩⟩ rfl rfl hl.1 rfl (lv_room (Nat.le_of_ble_eq_true rfl)) dX3_sizeOf_2 ⟨Nat.le_of_ble_eq_true rfl, Nat.le_of_ble_eq_true rfl⟩) (fun r1 u H locs hw hP hD hS => ?_)
  obtain ⟨hw, hb1⟩ := hw
  subst hw
  refine lv_if_ne (tgt := 10) hx hb dX3_sizeOf_5 (by decide) (fun c2 => ?_) (fun c2 => ?_)
  · replace hp := hp.2 c2
    replace he := he.trans (if_neg c2)
    refine lv_iconst (v := 0) hx hb dX3_sizeOf_10 (by decide) ?_
    refine lv_istore_n (lv' := [(2, .int 0), (0, .ref t0), (1, .int a1)]) hx hb dX3_sizeOf_11 rfl hl (by decide) rfl (fun ls hl => ?_)
    refine lv_iconst (v := 0) hx hb dX3_sizeOf_12 (by decide) ?_
    refine lv_istore_n (lv' := [(3, .int 0), (2, .int 0), (0, .ref t0), (1, .int a1)]) hx hb dX3_sizeOf_13 rfl hl (by decide) rfl (fun ls hl => ?_)
    obtain ⟨⟨r3_v14_2, r3_v14_3⟩, hL3⟩ : ∃ z, z = f_X3_sizeOf_L14 tn a1 15 (0 : Int32) (0 : Int32) := ⟨_, rfl⟩
    rw [← hL3] at he
    try dsimp only at he
    have hpL3 := hp.1
    replace hp := hp.2 _ _ hL3.symm
    have kont3 : ∀ (x3_v14_2 : Int32) (x3_v14_3 : Int32), (r3_v14_2, r3_v14_3) = (x3_v14_2, x3_v14_3) → ∀ (H : Heap) (locs : List Loc), va_P D vwCl (W_X3 cI t0 t1 t2 tw tn tt) H → va_D A (W_X3 cI t0 t1 t2 tw tn tt) → va_S A s.heap H locs → ∀ ls : Array Slot, lv_has ls 4 [(2, .int x3_v14_2)] → W p l e (headSpec wsX3_sizeOf rm_X3_sizeOf).room s m ([.ref t0, .int a1] : List Value).toArray below meth c H locs 0 0 (MQ below (Q_X3_sizeOf D cI t0 t1 t2 tw tn tt a1 A) ([.ref t0, .int a1] : List Value).toArray s 0 0 A) (F0 m 39 ls []) := by
      intro x3_v14_2 x3_v14_3 hxe H locs hP hD hS ls hl
      simp only [Prod.mk.injEq] at hxe
      obtain ⟨rfl, rfl⟩ := hxe
      refine lv_iload_n hx hb dX3_sizeOf_39 rfl (lv_at hl 0 rfl) ?_
      exact W.iret (v := r3_v14_2) hx hb hr (fun t ht hW => ⟨⟨r3_v14_2, (), rfl, he, by rw [ht]; exact hP, va_K.moved hW.alike hK, hD⟩, hS.F ht⟩) hS.2.2 dX3_sizeOf_40
    have loop3 : ∀ (n : Nat) (v14_2 : Int32) (v14_3 : Int32), p_X3_sizeOf_L14 tn a1 n v14_2 v14_3 → (r3_v14_2, r3_v14_3) = f_X3_sizeOf_L14 tn a1 n v14_2 v14_3 → ∀ (H : Heap) (locs : List Loc), va_P D vwCl (W_X3 cI t0 t1 t2 tw tn tt) H → va_D A (W_X3 cI t0 t1 t2 tw tn tt) → va_S A s.heap H locs → ∀ ls : Array Slot, lv_has ls 4 [(3, .int v14_3), (2, .int v14_2), (0, .ref t0), (1, .int a1)] → W p l e (headSpec wsX3_sizeOf rm_X3_sizeOf).room s m ([.ref t0, .int a1] : List Value).toArray below meth c H locs 0 0 (MQ below (Q_X3_sizeOf D cI t0 t1 t2 tw tn tt a1 A) ([.ref t0, .int a1] : List Value).toArray s 0 0 A) (F0 m 14 ls []) := by
      intro n
      induction n with
      | zero => exact fun _ _ hp => hp.elim
      | succ n ih =>
        intro v14_2 v14_3 hp he H locs hP hD hS ls hl
        replace hp := Eq.mp (p_X3_sizeOf_L14.eq_2 ..) hp
        replace he := he.trans (f_X3_sizeOf_L14.eq_2 ..)
        refine lv_iload_n hx hb dX3_sizeOf_14 rfl (lv_at hl 0 rfl) ?_
        refine lv_bipush (v := 14) hx hb dX3_sizeOf_15 (by decide) ?_
        refine lv_icmp_ge (tgt := 39) hx hb dX3_sizeOf_17 (by decide) (fun c4 => ?_) (fun c4 => ?_)
        · replace hp := hp.1 c4
          replace he := he.trans (if_pos c4)
          exact kont3 _ _ he _ _ hP hD hS _ (lv_sub hl [1] rfl)
        · replace hp := hp.2 c4
          replace he := he.trans (if_neg c4)
          refine lv_aload_n hx hb dX3_sizeOf_20 rfl (lv_at hl 2 rfl) ?_
          refine va_get (D := D) (ci := 3) (v := .ref t1) (C := RX3) (T := TX3) (N := 3) hx hb hts (by decide +kernel) hown hK hP 0 rfl rfl 0 (by decide) (hts (.fieldLink RX3 9 "Alarmgrove$Tickets" "numbers" "[I") (by decide +kernel)) (fun _ h9 => h9) rfl dX3_sizeOf_21 ?_
          refine lv_iload_n hx hb dX3_sizeOf_24 rfl (lv_at hl 0 rfl) ?_
          have h5 := hp.1
          replace hp := hp.2
          refine va_iald hx hb hK hP 1 0 rfl rfl h5 dX3_sizeOf_25 ?_
          refine lv_iload_n hx hb dX3_sizeOf_26 rfl (lv_at hl 3 rfl) ?_
          refine lv_icmp_ne (tgt := 33) hx hb dX3_sizeOf_27 (by decide) (fun c6 => ?_) (fun c6 => ?_)
          · replace hp := hp.2 c6
            replace he := he.trans (if_neg c6)
            refine lv_iinc (v := (v14_3 + 1)) (lv' := [(3, .int (v14_3 + 1)), (2, .int v14_2), (0, .ref t0), (1, .int a1)]) hx hb dX3_sizeOf_33 hl (k := 0) rfl rfl (by decide) rfl (fun ls hl => ?_)
            refine lv_goto (tgt := 14) hx hb dX3_sizeOf_36 (by decide) ?_
            exact ih _ _ hp he _ _ hP hD hS _ (lv_sub hl [0, 1, 2, 3] rfl)
          · replace hp := hp.1 c6
            replace he := he.trans (if_pos c6)
            refine lv_iinc (v := (v14_2 + 1)) (lv' := [(2, .int (v14_2 + 1)), (3, .int v14_3), (0, .ref t0), (1, .int a1)]) hx hb dX3_sizeOf_30 hl (k := 1) rfl rfl (by decide) rfl (fun ls hl => ?_)
            refine lv_iinc (v := (v14_3 + 1)) (lv' := [(3, .int (v14_3 + 1)), (2, .int (v14_2 + 1)), (0, .ref t0), (1, .int a1)]) hx hb dX3_sizeOf_33 hl (k := 1) rfl rfl (by decide) rfl (fun ls hl => ?_)
            refine lv_goto (tgt := 14) hx hb dX3_sizeOf_36 (by decide) ?_
            exact ih _ _ hp he _ _ hP hD hS _ (lv_sub hl [0, 1, 2, 3] rfl)
    exact loop3 15 (0 : Int32) (0 : Int32) hpL3 hL3 _ _ hP hD hS _ (lv_sub hl [0, 1, 2, 3] rfl)
  · replace hp := hp.1 c2
    replace he := he.trans (if_pos c2)
    refine lv_iconst (v := 0) hx hb dX3_sizeOf_8 (by decide) ?_
    exact W.iret (v := 0) hx hb hr (fun t ht hW => ⟨⟨0, (), rfl, he, by rw [ht]; exact hP, va_K.moved hW.alike hK, hD⟩, hS.F ht⟩) hS.2.2 dX3_sizeOf_9
abbrev rm_X3_leave : Room := { frames := 2, cells := 0, slots := 0, locals := 44 }
abbrev Q_X3_leave (D : va_G) (cI : ClassId) (t0 t1 t2 : Nat) (tw : Int32) (tn : AA) (tt : AA) (a1 : Int32) (A : Nat → Prop) : Array Value → State → Outcome → State → Prop := va_Qi (S := AA) (fun r u => f_X3_leave tw tn a1 = (r, u)) (fun u t => QW D [(cI, .int)] A (W_X3 cI t0 t1 t2 tw u tt) t) A
set_option maxHeartbeats 4000000 in
set_option maxRecDepth 100000 in
theorem c_X3_leave (l : Launch)  (D : va_G) (cI : ClassId) (t0 t1 t2 : Nat) (tw : Int32) (tn : AA) (tt : AA) (sz : Nat) (a1 : Int32) (hp : p_X3_leave tw tn a1) : Met l yX3_leave wsX3_leave rm_X3_leave (va_Pc [.ref t0, .int a1] (PW D [(cI, .int)] sz (W_X3 cI t0 t1 t2 tw tn tt))) (Q_X3_leave D cI t0 t1 t2 tw tn tt a1 (va_A (W_X3 cI t0 t1 t2 tw tn tt) sz)) 0 0 (va_A (W_X3 cI t0 t1 t2 tw tn tt) sz) := by
  refine Met.ofW (cc := cX3_leave) (maxL := 3) (ret := (some .int)) (by decide) rfl ?_
  intro p e s m args below meth c s₁ B hml hv
  obtain ⟨rfl, hsz, hP, hK, hD0, hN⟩ := hv
  have hx := B.exec
  have hb := B.bytes
  have hr := B.returns
  have hts := atoms_spec (ws := wsX3_leave) B.pre
  have hown : s.vm.findClass RX3 = some m.cls := findClass_of_methodNamed B.named
  have hlocks := B.notSynchronized
  subst hsz
  have hD := hD0.self (sz := s.heap.size)
  generalize hAe : va_A (W_X3 cI t0 t1 t2 tw tn tt) s.heap.size = A at hD ⊢
  have hA : ∀ q : Nat, s.heap.size ≤ q → A q := fun q h => by rw [← hAe]; exact Or.inr h
  have hS : va_S A s.heap s.heap [] := va_S.rf
  have hl := lv_entry ([.ref t0, .int a1]) (n := 3) (Nat.le_of_ble_eq_true rfl)
  rw [lg_entry_eq]
  generalize (lg_sl ([.ref t0, .int a1]) ++ List.replicate (3 - (lg_sl ([.ref t0, .int a1])).length) Slot.unset).toArray = ls at hl ⊢
  have hl : lv_has ls 3 [(0, .ref t0), (1, .int a1)] := hl
  have he := f_X3_leave.eq_1 tw tn a1
  replace hp := Eq.mp (p_X3_leave.eq_1 ..) hp
  refine lv_aload_n hx hb dX3_leave_0 rfl (lv_at hl 0 rfl) ?_
  refine va_get (D := D) (ci := 3) (v := .ref t1) (C := RX3) (T := TX3) (N := 3) hx hb hts (by decide +kernel) hown hK hP 0 rfl rfl 0 (by decide) (hts (.fieldLink RX3 9 "Alarmgrove$Tickets" "numbers" "[I") (by decide +kernel)) (fun _ h9 => h9) rfl dX3_leave_1 ?_
  refine lv_iload_n hx hb dX3_leave_4 rfl (lv_at hl 1 rfl) ?_
  have h1 := hp.1
  replace hp := hp.2
  refine va_iald hx hb hK hP 1 0 rfl rfl h1 dX3_leave_5 ?_
  refine lv_istore_n (lv' := [(2, .int (tn (a1).toNatClampNeg)), (0, .ref t0), (1, .int a1)]) hx hb dX3_leave_6 rfl hl (by decide) rfl (fun ls hl => ?_)
  refine lv_aload_n hx hb dX3_leave_7 rfl (lv_at hl 1 rfl) ?_
  refine va_get (D := D) (ci := 3) (v := .ref t1) (C := RX3) (T := TX3) (N := 3) hx hb hts (by decide +kernel) hown hK hP 0 rfl rfl 0 (by decide) (hts (.fieldLink RX3 9 "Alarmgrove$Tickets" "numbers" "[I") (by decide +kernel)) (fun _ h9 => h9) rfl dX3_leave_8 ?_
  refine lv_iload_n hx hb dX3_leave_11 rfl (lv_at hl 2 rfl) ?_
  refine lv_iconst (v := (-1)) hx hb dX3_leave_12 (by decide) ?_
  have h2 := hp.1
  replace hp := hp.2
  refine va_iast hx hb hK hP hD hS 1 0 rfl rfl h2 dX3_leave_13 (fun H locs hP hD hS => ?_)
  have hP : va_P D vwCl (W_X3 cI t0 t1 t2 tw (upd tn (a1).toNatClampNeg (-1)) tt) H := hP
  have hD : va_D A (W_X3 cI t0 t1 t2 tw (upd tn (a1).toNatClampNeg (-1)) tt) := hD
  refine lv_aload_n hx hb dX3_leave_14 rfl (lv_at hl 1 rfl) ?_
  refine lv_iload_n hx hb dX3_leave_15 rfl (lv_at hl 0 rfl) ?_
  have hq3 := hp.1
  replace hp := hp.2
  refine k_calli (S := Unit) (wc := (W_X3 cI t0 t1 t2 tw (upd tn (a1).toNatClampNeg (-1)) tt)) (wr := ([] : va_W)) (w1 := fun u => (W_X3 cI t0 t1 t2 tw (upd tn (a1).toNatClampNeg (-1)) tt)) (fun u => (W_X3 cI t0 t1 t2 tw (upd tn (a1).toNatClampNeg (-1)) tt)) hP hK hD hN hS hA [0, 1, 2] [] rfl rfl (by decide) (by decide) (by decide) [0, 1, 2] (by decide) (fun _ => rfl) (fun hg => va_runV (As := [.int (tn (a1).toNatClampNeg)]) (rest := []) ⟨hx, hb, hml, hown, hts⟩ (c_X3_sizeOf l D cI t0 t1 t2 tw (upd tn (a1).toNatClampNeg (-1)) tt _ (tn (a1).toNatClampNeg) hq3) (cwV 1 hts gX3_leave_X3_sizeOf rfl rfl rfl (by decide +kernel) ⟨Nat.le_of_ble_eq_true rfl, Nat.le_of_ble_eq_true rfl⟩) ⟨PW.blind, va_recv hK hP (ci := 3) (q0 := 0) rfl rfl, fun U hU hW => ⟨rfl, hg U hU hW⟩⟩ rfl rfl hl.1 rfl (lv_room (Nat.le_of_ble_eq_true rfl)) dX3_leave_16 ⟨Nat.le_of_ble_eq_true rfl, Nat.le_of_ble_eq_true rfl⟩) (fun r3 u H locs hw hP hD hS => ?_)
  subst hw
  exact W.iret (v := (f_X3_sizeOf tw (upd tn (a1).toNatClampNeg (-1)) (tn (a1).toNatClampNeg))) hx hb hr (fun t ht hW => ⟨⟨(f_X3_sizeOf tw (upd tn (a1).toNatClampNeg (-1)) (tn (a1).toNatClampNeg)), (upd tn (a1).toNatClampNeg (-1)), rfl, he, by rw [ht]; exact hP, va_K.moved hW.alike hK, hD⟩, hS.F ht⟩) hS.2.2 dX3_leave_19
abbrev rm_X3_merge : Room := { frames := 1, cells := 0, slots := 0, locals := 21 }
abbrev Q_X3_merge (D : va_G) (cI : ClassId) (t0 t1 t2 : Nat) (tw : Int32) (tn : AA) (tt : AA) (a1 a2 : Int32) (A : Nat → Prop) : Array Value → State → Outcome → State → Prop := va_Qv (S := AA × AA) (fun u => f_X3_merge tw tn tt a1 a2 = u) (fun u t => QW D [(cI, .int)] A (W_X3 cI t0 t1 t2 tw u.1 u.2) t) A
set_option maxHeartbeats 4000000 in
set_option maxRecDepth 100000 in
theorem c_X3_merge (l : Launch)  (D : va_G) (cI : ClassId) (t0 t1 t2 : Nat) (tw : Int32) (tn : AA) (tt : AA) (sz : Nat) (a1 a2 : Int32) (hp : p_X3_merge tw tn a1 a2) : Met l yX3_merge wsX3_merge rm_X3_merge (va_Pc [.ref t0, .int a1, .int a2] (PW D [(cI, .int)] sz (W_X3 cI t0 t1 t2 tw tn tt))) (Q_X3_merge D cI t0 t1 t2 tw tn tt a1 a2 (va_A (W_X3 cI t0 t1 t2 tw tn tt) sz)) 0 0 (va_A (W_X3 cI t0 t1 t2 tw tn tt) sz) := by
  refine Met.ofW (cc := cX3_merge) (maxL := 4) (ret := none) (by decide) rfl ?_
  intro p e s m args below meth c s₁ B hml hv
  obtain ⟨rfl, hsz, hP, hK, hD0, hN⟩ := hv
  have hx := B.exec
  have hb := B.bytes
  have hr := B.returns
  have hts := atoms_spec (ws := wsX3_merge) B.pre
  have hown : s.vm.findClass RX3 = some m.cls := findClass_of_methodNamed B.named
  have hlocks := B.notSynchronized
  subst hsz
  have hD := hD0.self (sz := s.heap.size)
  generalize hAe : va_A (W_X3 cI t0 t1 t2 tw tn tt) s.heap.size = A at hD ⊢
  have hA : ∀ q : Nat, s.heap.size ≤ q → A q := fun q h => by rw [← hAe]; exact Or.inr h
  have hS : va_S A s.heap s.heap [] := va_S.rf
  have hl := lv_entry ([.ref t0, .int a1, .int a2]) (n := 4) (Nat.le_of_ble_eq_true rfl)
  rw [lg_entry_eq]
  generalize (lg_sl ([.ref t0, .int a1, .int a2]) ++ List.replicate (4 - (lg_sl ([.ref t0, .int a1, .int a2])).length) Slot.unset).toArray = ls at hl ⊢
  have hl : lv_has ls 4 [(0, .ref t0), (1, .int a1), (2, .int a2)] := hl
  have he := f_X3_merge.eq_1 tw tn tt a1 a2
  replace hp := Eq.mp (p_X3_merge.eq_1 ..) hp
  refine lv_iconst (v := 0) hx hb dX3_merge_0 (by decide) ?_
  refine lv_istore_n (lv' := [(3, .int 0), (0, .ref t0), (1, .int a1), (2, .int a2)]) hx hb dX3_merge_1 rfl hl (by decide) rfl (fun ls hl => ?_)
  obtain ⟨⟨r1_v2_3, r1_tn_2⟩, hL1⟩ : ∃ z, z = f_X3_merge_L2 a1 a2 15 (0 : Int32) tn := ⟨_, rfl⟩
  rw [← hL1] at he
  try dsimp only at he
  have hpL1 := hp.1
  replace hp := hp.2 _ _ hL1.symm
  have kont1 : ∀ (x1_v2_3 : Int32) (x1_tn_2 : AA), (r1_v2_3, r1_tn_2) = (x1_v2_3, x1_tn_2) → ∀ (H : Heap) (locs : List Loc), va_P D vwCl (W_X3 cI t0 t1 t2 tw x1_tn_2 tt) H → va_D A (W_X3 cI t0 t1 t2 tw x1_tn_2 tt) → va_S A s.heap H locs → ∀ ls : Array Slot, lv_has ls 4 [(0, .ref t0), (1, .int a1), (2, .int a2)] → W p l e (headSpec wsX3_merge rm_X3_merge).room s m ([.ref t0, .int a1, .int a2] : List Value).toArray below meth c H locs 0 0 (MQ below (Q_X3_merge D cI t0 t1 t2 tw tn tt a1 a2 A) ([.ref t0, .int a1, .int a2] : List Value).toArray s 0 0 A) (F0 m 31 ls []) := by
    intro x1_v2_3 x1_tn_2 hxe H locs hP hD hS ls hl
    simp only [Prod.mk.injEq] at hxe
    obtain ⟨rfl, rfl⟩ := hxe
    refine lv_aload_n hx hb dX3_merge_31 rfl (lv_at hl 0 rfl) ?_
    refine lv_iload_n hx hb dX3_merge_32 rfl (lv_at hl 1 rfl) ?_
    refine k_calli (S := Unit) (wc := (W_X3 cI t0 t1 t2 tw r1_tn_2 tt)) (wr := ([] : va_W)) (w1 := fun u => (W_X3 cI t0 t1 t2 tw r1_tn_2 tt)) (fun u => (W_X3 cI t0 t1 t2 tw r1_tn_2 tt)) hP hK hD hN hS hA [0, 1, 2] [] rfl rfl (by decide) (by decide) (by decide) [0, 1, 2] (by decide) (fun _ => rfl) (fun hg => va_runV (As := [.int a1]) (rest := []) ⟨hx, hb, hml, hown, hts⟩ (c_X3_isUsed l D cI t0 t1 t2 tw r1_tn_2 tt _ a1) (cwV 1 hts gX3_merge_X3_isUsed rfl rfl rfl (by decide +kernel) ⟨Nat.le_of_ble_eq_true rfl, Nat.le_of_ble_eq_true rfl⟩) ⟨PW.blind, va_recv hK hP (ci := 3) (q0 := 0) rfl rfl, fun U hU hW => ⟨rfl, hg U hU hW⟩⟩ rfl rfl hl.1 rfl (lv_room (Nat.le_of_ble_eq_true rfl)) dX3_merge_33 ⟨Nat.le_of_ble_eq_true rfl, Nat.le_of_ble_eq_true rfl⟩) (fun r6 u H locs hw hP hD hS => ?_)
    obtain ⟨hw, hb6⟩ := hw
    subst hw
    refine lv_if_eq (tgt := 46) hx hb dX3_merge_36 (by decide) (fun c7 => ?_) (fun c7 => ?_)
    · replace hp := hp.1 c7
      replace he := he.trans (if_pos c7)
      exact W.vret hx hb hr (fun t ht hW => ⟨⟨(r1_tn_2, tt), rfl, he, by rw [ht]; exact hP, va_K.moved hW.alike hK, hD⟩, hS.F ht⟩) hS.2.2 dX3_merge_46
    · replace hp := hp.2 c7
      replace he := he.trans (if_neg c7)
      refine lv_aload_n hx hb dX3_merge_39 rfl (lv_at hl 0 rfl) ?_
      refine va_get (D := D) (ci := 3) (v := .ref t2) (C := RX3) (T := TX3) (N := 3) hx hb hts (by decide +kernel) hown hK hP 0 rfl rfl 1 (by decide) (hts (.fieldLink RX3 15 "Alarmgrove$Tickets" "targets" "[I") (by decide +kernel)) (fun _ h9 => h9) rfl dX3_merge_40 ?_
      refine lv_iload_n hx hb dX3_merge_43 rfl (lv_at hl 1 rfl) ?_
      refine lv_iload_n hx hb dX3_merge_44 rfl (lv_at hl 2 rfl) ?_
      have h8 := hp.1
      replace hp := hp.2
      refine va_iast hx hb hK hP hD hS 2 0 rfl rfl h8 dX3_merge_45 (fun H locs hP hD hS => ?_)
      have hP : va_P D vwCl (W_X3 cI t0 t1 t2 tw r1_tn_2 (upd tt (a1).toNatClampNeg a2)) H := hP
      have hD : va_D A (W_X3 cI t0 t1 t2 tw r1_tn_2 (upd tt (a1).toNatClampNeg a2)) := hD
      exact W.vret hx hb hr (fun t ht hW => ⟨⟨(r1_tn_2, (upd tt (a1).toNatClampNeg a2)), rfl, he, by rw [ht]; exact hP, va_K.moved hW.alike hK, hD⟩, hS.F ht⟩) hS.2.2 dX3_merge_46
  have loop1 : ∀ (n : Nat) (v2_3 : Int32) (tn_2 : AA), p_X3_merge_L2 a1 a2 n v2_3 tn_2 → (r1_v2_3, r1_tn_2) = f_X3_merge_L2 a1 a2 n v2_3 tn_2 → ∀ (H : Heap) (locs : List Loc), va_P D vwCl (W_X3 cI t0 t1 t2 tw tn_2 tt) H → va_D A (W_X3 cI t0 t1 t2 tw tn_2 tt) → va_S A s.heap H locs → ∀ ls : Array Slot, lv_has ls 4 [(3, .int v2_3), (0, .ref t0), (1, .int a1), (2, .int a2)] → W p l e (headSpec wsX3_merge rm_X3_merge).room s m ([.ref t0, .int a1, .int a2] : List Value).toArray below meth c H locs 0 0 (MQ below (Q_X3_merge D cI t0 t1 t2 tw tn tt a1 a2 A) ([.ref t0, .int a1, .int a2] : List Value).toArray s 0 0 A) (F0 m 2 ls []) := by
    intro n
    induction n with
    | zero => exact fun _ _ hp => hp.elim
    | succ n ih =>
      intro v2_3 tn_2 hp he H locs hP hD hS ls hl
      replace hp := Eq.mp (p_X3_merge_L2.eq_2 ..) hp
      replace he := he.trans (f_X3_merge_L2.eq_2 ..)
      refine lv_iload_n hx hb dX3_merge_2 rfl (lv_at hl 0 rfl) ?_
      refine lv_bipush (v := 14) hx hb dX3_merge_3 (by decide) ?_
      refine lv_icmp_ge (tgt := 31) hx hb dX3_merge_5 (by decide) (fun c2 => ?_) (fun c2 => ?_)
      · replace hp := hp.1 c2
        replace he := he.trans (if_pos c2)
        exact kont1 _ _ he _ _ hP hD hS _ (lv_sub hl [1, 2, 3] rfl)
      · replace hp := hp.2 c2
        replace he := he.trans (if_neg c2)
        refine lv_aload_n hx hb dX3_merge_8 rfl (lv_at hl 1 rfl) ?_
        refine va_get (D := D) (ci := 3) (v := .ref t1) (C := RX3) (T := TX3) (N := 3) hx hb hts (by decide +kernel) hown hK hP 0 rfl rfl 0 (by decide) (hts (.fieldLink RX3 9 "Alarmgrove$Tickets" "numbers" "[I") (by decide +kernel)) (fun _ h9 => h9) rfl dX3_merge_9 ?_
        refine lv_iload_n hx hb dX3_merge_12 rfl (lv_at hl 0 rfl) ?_
        have h3 := hp.1
        replace hp := hp.2
        refine va_iald hx hb hK hP 1 0 rfl rfl h3 dX3_merge_13 ?_
        refine lv_iload_n hx hb dX3_merge_14 rfl (lv_at hl 2 rfl) ?_
        refine lv_icmp_ne (tgt := 25) hx hb dX3_merge_15 (by decide) (fun c4 => ?_) (fun c4 => ?_)
        · replace hp := hp.2 c4
          replace he := he.trans (if_neg c4)
          refine lv_iinc (v := (v2_3 + 1)) (lv' := [(3, .int (v2_3 + 1)), (0, .ref t0), (1, .int a1), (2, .int a2)]) hx hb dX3_merge_25 hl (k := 0) rfl rfl (by decide) rfl (fun ls hl => ?_)
          refine lv_goto (tgt := 2) hx hb dX3_merge_28 (by decide) ?_
          exact ih _ _ hp he _ _ hP hD hS _ (lv_sub hl [0, 1, 2, 3] rfl)
        · replace hp := hp.1 c4
          replace he := he.trans (if_pos c4)
          refine lv_aload_n hx hb dX3_merge_18 rfl (lv_at hl 1 rfl) ?_
          refine va_get (D := D) (ci := 3) (v := .ref t1) (C := RX3) (T := TX3) (N := 3) hx hb hts (by decide +kernel) hown hK hP 0 rfl rfl 0 (by decide) (hts (.fieldLink RX3 9 "Alarmgrove$Tickets" "numbers" "[I") (by decide +kernel)) (fun _ h9 => h9) rfl dX3_merge_19 ?_
          refine lv_iload_n hx hb dX3_merge_22 rfl (lv_at hl 0 rfl) ?_
          refine lv_iload_n hx hb dX3_merge_23 rfl (lv_at hl 3 rfl) ?_
          have h5 := hp.1
          replace hp := hp.2
          refine va_iast hx hb hK hP hD hS 1 0 rfl rfl h5 dX3_merge_24 (fun H locs hP hD hS => ?_)
          have hP : va_P D vwCl (W_X3 cI t0 t1 t2 tw (upd tn_2 (v2_3).toNatClampNeg a2) tt) H := hP
          have hD : va_D A (W_X3 cI t0 t1 t2 tw (upd tn_2 (v2_3).toNatClampNeg a2) tt) := hD
          refine lv_iinc (v := (v2_3 + 1)) (lv' := [(3, .int (v2_3 + 1)), (0, .ref t0), (1, .int a1), (2, .int a2)]) hx hb dX3_merge_25 hl (k := 0) rfl rfl (by decide) rfl (fun ls hl => ?_)
          refine lv_goto (tgt := 2) hx hb dX3_merge_28 (by decide) ?_
          exact ih _ _ hp he _ _ hP hD hS _ (lv_sub hl [0, 1, 2, 3] rfl)
  exact loop1 15 (0 : Int32) tn hpL1 hL1 _ _ hP hD hS _ (lv_sub hl [0, 1, 2, 3] rfl)
abbrev rm_X3_unite : Room := { frames := 2, cells := 0, slots := 0, locals := 44 }
abbrev Q_X3_unite (D : va_G) (cI : ClassId) (t0 t1 t2 : Nat) (tw : Int32) (tn : AA) (tt : AA) (a1 : Int32) (A : Nat → Prop) : Array Value → State → Outcome → State → Prop := va_Qi (S := AA × AA) (fun r u => f_X3_unite tw tn tt a1 = (r, u)) (fun u t => QW D [(cI, .int)] A (W_X3 cI t0 t1 t2 tw u.1 u.2) t) A
set_option maxHeartbeats 4000000 in
set_option maxRecDepth 100000 in
theorem c_X3_unite (l : Launch)  (D : va_G) (cI : ClassId) (t0 t1 t2 : Nat) (tw : Int32) (tn : AA) (tt : AA) (sz : Nat) (a1 : Int32) (hp : p_X3_unite tw tn tt a1) : Met l yX3_unite wsX3_unite rm_X3_unite (va_Pc [.ref t0, .int a1] (PW D [(cI, .int)] sz (W_X3 cI t0 t1 t2 tw tn tt))) (Q_X3_unite D cI t0 t1 t2 tw tn tt a1 (va_A (W_X3 cI t0 t1 t2 tw tn tt) sz)) 0 0 (va_A (W_X3 cI t0 t1 t2 tw tn tt) sz) := by
  refine Met.ofW (cc := cX3_unite) (maxL := 4) (ret := (some .int)) (by decide) rfl ?_
  intro p e s m args below meth c s₁ B hml hv
  obtain ⟨rfl, hsz, hP, hK, hD0, hN⟩ := hv
  have hx := B.exec
  have hb := B.bytes
  have hr := B.returns
  have hts := atoms_spec (ws := wsX3_unite) B.pre
  have hown : s.vm.findClass RX3 = some m.cls := findClass_of_methodNamed B.named
  have hlocks := B.notSynchronized
  subst hsz
  have hD := hD0.self (sz := s.heap.size)
  generalize hAe : va_A (W_X3 cI t0 t1 t2 tw tn tt) s.heap.size = A at hD ⊢
  have hA : ∀ q : Nat, s.heap.size ≤ q → A q := fun q h => by rw [← hAe]; exact Or.inr h
  have hS : va_S A s.heap s.heap [] := va_S.rf
  have hl := lv_entry ([.ref t0, .int a1]) (n := 4) (Nat.le_of_ble_eq_true rfl)
  rw [lg_entry_eq]
  generalize (lg_sl ([.ref t0, .int a1]) ++ List.replicate (4 - (lg_sl ([.ref t0, .int a1])).length) Slot.unset).toArray = ls at hl ⊢
  have hl : lv_has ls 4 [(0, .ref t0), (1, .int a1)] := hl
  have he := f_X3_unite.eq_1 tw tn tt a1
  replace hp := Eq.mp (p_X3_unite.eq_1 ..) hp
  refine lv_aload_n hx hb dX3_unite_0 rfl (lv_at hl 0 rfl) ?_
  refine va_get (D := D) (ci := 3) (v := .int tw) (C := RX3) (T := TX3) (N := 3) hx hb hts (by decide +kernel) hown hK hP 0 rfl rfl 2 (by decide) (hts (.fieldLink RX3 18 "Alarmgrove$Tickets" "newest" "I") (by decide +kernel)) (fun _ h9 => h9) rfl dX3_unite_1 ?_
  refine lv_istore_n (lv' := [(2, .int tw), (0, .ref t0), (1, .int a1)]) hx hb dX3_unite_4 rfl hl (by decide) rfl (fun ls hl => ?_)
  refine lv_iconst (v := 0) hx hb dX3_unite_5 (by decide) ?_
  refine lv_istore_n (lv' := [(3, .int 0), (2, .int tw), (0, .ref t0), (1, .int a1)]) hx hb dX3_unite_6 rfl hl (by decide) rfl (fun ls hl => ?_)
  obtain ⟨⟨r1_v7_2, r1_v7_3⟩, hL1⟩ : ∃ z, z = f_X3_unite_L7 tn a1 15 tw (0 : Int32) := ⟨_, rfl⟩
  rw [← hL1] at he
  try dsimp only at he
  have hpL1 := hp.1
  replace hp := hp.2 _ _ hL1.symm
  have kont1 : ∀ (x1_v7_2 : Int32) (x1_v7_3 : Int32), (r1_v7_2, r1_v7_3) = (x1_v7_2, x1_v7_3) → ∀ (H : Heap) (locs : List Loc), va_P D vwCl (W_X3 cI t0 t1 t2 tw tn tt) H → va_D A (W_X3 cI t0 t1 t2 tw tn tt) → va_S A s.heap H locs → ∀ ls : Array Slot, lv_has ls 4 [(2, .int x1_v7_2), (0, .ref t0), (1, .int a1)] → W p l e (headSpec wsX3_unite rm_X3_unite).room s m ([.ref t0, .int a1] : List Value).toArray below meth c H locs 0 0 (MQ below (Q_X3_unite D cI t0 t1 t2 tw tn tt a1 A) ([.ref t0, .int a1] : List Value).toArray s 0 0 A) (F0 m 38 ls []) := by
    intro x1_v7_2 x1_v7_3 hxe H locs hP hD hS ls hl
    simp only [Prod.mk.injEq] at hxe
    obtain ⟨rfl, rfl⟩ := hxe
    refine lv_iconst (v := 0) hx hb dX3_unite_38 (by decide) ?_
    refine lv_istore_n (lv' := [(3, .int 0), (2, .int r1_v7_2), (0, .ref t0), (1, .int a1)]) hx hb dX3_unite_39 rfl hl (by decide) rfl (fun ls hl => ?_)
    obtain ⟨⟨r7_v40_3, r7_tn_40, r7_tt_40⟩, hL7⟩ : ∃ z, z = f_X3_unite_L40 tw a1 r1_v7_2 15 (0 : Int32) tn tt := ⟨_, rfl⟩
    rw [← hL7] at he
    try dsimp only at he
    have hpL7 := hp.1
    replace hp := hp.2 _ _ _ hL7.symm
    have kont7 : ∀ (x7_v40_3 : Int32) (x7_tn_40 : AA) (x7_tt_40 : AA), (r7_v40_3, r7_tn_40, r7_tt_40) = (x7_v40_3, x7_tn_40, x7_tt_40) → ∀ (H : Heap) (locs : List Loc), va_P D vwCl (W_X3 cI t0 t1 t2 tw x7_tn_40 x7_tt_40) H → va_D A (W_X3 cI t0 t1 t2 tw x7_tn_40 x7_tt_40) → va_S A s.heap H locs → ∀ ls : Array Slot, lv_has ls 4 [(2, .int r1_v7_2)] → W p l e (headSpec wsX3_unite rm_X3_unite).room s m ([.ref t0, .int a1] : List Value).toArray below meth c H locs 0 0 (MQ below (Q_X3_unite D cI t0 t1 t2 tw tn tt a1 A) ([.ref t0, .int a1] : List Value).toArray s 0 0 A) (F0 m 81 ls []) := by
      intro x7_v40_3 x7_tn_40 x7_tt_40 hxe H locs hP hD hS ls hl
      simp only [Prod.mk.injEq] at hxe
      obtain ⟨rfl, rfl, rfl⟩ := hxe
      refine lv_iload_n hx hb dX3_unite_81 rfl (lv_at hl 0 rfl) ?_
      exact W.iret (v := r1_v7_2) hx hb hr (fun t ht hW => ⟨⟨r1_v7_2, (r7_tn_40, r7_tt_40), rfl, he, by rw [ht]; exact hP, va_K.moved hW.alike hK, hD⟩, hS.F ht⟩) hS.2.2 dX3_unite_82
    have loop7 : ∀ (n : Nat) (v40_3 : Int32) (tn_40 : AA) (tt_40 : AA), p_X3_unite_L40 tw a1 r1_v7_2 n v40_3 tn_40 tt_40 → (r7_v40_3, r7_tn_40, r7_tt_40) = f_X3_unite_L40 tw a1 r1_v7_2 n v40_3 tn_40 tt_40 → ∀ (H : Heap) (locs : List Loc), va_P D vwCl (W_X3 cI t0 t1 t2 tw tn_40 tt_40) H → va_D A (W_X3 cI t0 t1 t2 tw tn_40 tt_40) → va_S A s.heap H locs → ∀ ls : Array Slot, lv_has ls 4 [(3, .int v40_3), (2, .int r1_v7_2), (0, .ref t0), (1, .int a1)] → W p l e (headSpec wsX3_unite rm_X3_unite).room s m ([.ref t0, .int a1] : List Value).toArray below meth c H locs 0 0 (MQ below (Q_X3_unite D cI t0 t1 t2 tw tn tt a1 A) ([.ref t0, .int a1] : List Value).toArray s 0 0 A) (F0 m 40 ls []) := by
      intro n
      induction n with
      | zero => exact fun _ _ _ hp => hp.elim
      | succ n ih =>
        intro v40_3 tn_40 tt_40 hp he H locs hP hD hS ls hl
        replace hp := Eq.mp (p_X3_unite_L40.eq_2 ..) hp
        replace he := he.trans (f_X3_unite_L40.eq_2 ..)
        refine lv_iload_n hx hb dX3_unite_40 rfl (lv_at hl 0 rfl) ?_
        refine lv_bipush (v := 14) hx hb dX3_unite_41 (by decide) ?_
        refine lv_icmp_ge (tgt := 81) hx hb dX3_unite_43 (by decide) (fun c8 => ?_) (fun c8 => ?_)
        · replace hp := hp.1 c8
          replace he := he.trans (if_pos c8)
          exact kont7 _ _ _ he _ _ hP hD hS _ (lv_sub hl [1] rfl)
        · replace hp := hp.2 c8
          replace he := he.trans (if_neg c8)
          refine lv_iload_n hx hb dX3_unite_46 rfl (lv_at hl 3 rfl) ?_
          refine lv_iload_n hx hb dX3_unite_47 rfl (lv_at hl 0 rfl) ?_
          refine k_calli (S := Unit) (wc := ([] : va_W)) (wr := (W_X3 cI t0 t1 t2 tw tn_40 tt_40)) (w1 := fun u => ([] : va_W)) (fun u => (W_X3 cI t0 t1 t2 tw tn_40 tt_40)) hP hK hD hN hS hA [] [0, 1, 2] rfl rfl (by decide) (by decide) (by decide) [0, 1, 2] (by decide) (fun _ => rfl) (fun hg => va_runSN (As := [.int a1, .int v40_3]) (rest := []) ⟨hx, hb, hml, hown, hts⟩ (c_X4_has l D cI _ a1 v40_3) ⟨va_cnB 2 hts gX3_unite_X4_has_n36 rfl rfl rfl (hN.at 7 rfl) (hts (.initialized RX4) (by decide +kernel)) (by decide +kernel) ⟨Nat.le_of_ble_eq_true rfl, Nat.le_of_ble_eq_true rfl⟩, hts (.static yX4_has) (by decide +kernel), trivial⟩ ⟨PW.blind, fun U hU hW => ⟨rfl, hg U hU hW⟩⟩ rfl rfl hl.1 rfl (lv_room (Nat.le_of_ble_eq_true rfl)) dX3_unite_48 ⟨Nat.le_of_ble_eq_true rfl, Nat.le_of_ble_eq_true rfl⟩) (fun r9 u H locs hw hP hD hS => ?_)
          obtain ⟨hw, hb9⟩ := hw
          subst hw
          refine lv_if_eq (tgt := 75) hx hb dX3_unite_51 (by decide) (fun c10 => ?_) (fun c10 => ?_)
          · replace hp := hp.1 c10
            replace he := he.trans (if_pos c10)
            refine lv_iinc (v := (v40_3 + 1)) (lv' := [(3, .int (v40_3 + 1)), (2, .int r1_v7_2), (0, .ref t0), (1, .int a1)]) hx hb dX3_unite_75 hl (k := 0) rfl rfl (by decide) rfl (fun ls hl => ?_)
            refine lv_goto (tgt := 40) hx hb dX3_unite_78 (by decide) ?_
            exact ih _ _ _ hp he _ _ hP hD hS _ (lv_sub hl [0, 1, 2, 3] rfl)
          · replace hp := hp.2 c10
            replace he := he.trans (if_neg c10)
            refine lv_aload_n hx hb dX3_unite_54 rfl (lv_at hl 2 rfl) ?_
            refine va_get (D := D) (ci := 3) (v := .ref t1) (C := RX3) (T := TX3) (N := 3) hx hb hts (by decide +kernel) hown hK hP 0 rfl rfl 0 (by decide) (hts (.fieldLink RX3 9 "Alarmgrove$Tickets" "numbers" "[I") (by decide +kernel)) (fun _ h9 => h9) rfl dX3_unite_55 ?_
            refine lv_iload_n hx hb dX3_unite_58 rfl (lv_at hl 0 rfl) ?_
            have h11 := hp.1
            replace hp := hp.2
            refine va_iald hx hb hK hP 1 0 rfl rfl h11 dX3_unite_59 ?_
            refine lv_iload_n hx hb dX3_unite_60 rfl (lv_at hl 1 rfl) ?_
            refine lv_icmp_eq (tgt := 75) hx hb dX3_unite_61 (by decide) (fun c12 => ?_) (fun c12 => ?_)
            · replace hp := hp.1 c12
              replace he := he.trans (if_pos c12)
              refine lv_iinc (v := (v40_3 + 1)) (lv' := [(3, .int (v40_3 + 1)), (2, .int r1_v7_2), (0, .ref t0), (1, .int a1)]) hx hb dX3_unite_75 hl (k := 0) rfl rfl (by decide) rfl (fun ls hl => ?_)
              refine lv_goto (tgt := 40) hx hb dX3_unite_78 (by decide) ?_
              exact ih _ _ _ hp he _ _ hP hD hS _ (lv_sub hl [0, 1, 2, 3] rfl)
            · replace hp := hp.2 c12
              replace he := he.trans (if_neg c12)
              refine lv_aload_n hx hb dX3_unite_64 rfl (lv_at hl 2 rfl) ?_
              refine lv_aload_n hx hb dX3_unite_65 rfl (lv_at hl 2 rfl) ?_
              refine va_get (D := D) (ci := 3) (v := .ref t1) (C := RX3) (T := TX3) (N := 3) hx hb hts (by decide +kernel) hown hK hP 0 rfl rfl 0 (by decide) (hts (.fieldLink RX3 9 "Alarmgrove$Tickets" "numbers" "[I") (by decide +kernel)) (fun _ h9 => h9) rfl dX3_unite_66 ?_
              refine lv_iload_n hx hb dX3_unite_69 rfl (lv_at hl 0 rfl) ?_
              have h13 := hp.1
              replace hp := hp.2
              refine va_iald hx hb hK hP 1 0 rfl rfl h13 dX3_unite_70 ?_
              refine lv_iload_n hx hb dX3_unite_71 rfl (lv_at hl 1 rfl) ?_
              have hq14 := hp.1
              replace hp := hp.2
              refine k_callv (S := AA × AA) (wc := (W_X3 cI t0 t1 t2 tw tn_40 tt_40)) (wr := ([] : va_W)) (w1 := fun u => (W_X3 cI t0 t1 t2 tw u.1 u.2)) (fun u => (W_X3 cI t0 t1 t2 tw u.1 u.2)) hP hK hD hN hS hA [0, 1, 2] [] rfl rfl (by decide) (by decide) (by decide) [0, 1, 2] (by decide) (fun _ => rfl) (fun hg => va_runV (As := [.int (tn_40 (v40_3).toNatClampNeg), .int r1_v7_2]) (rest := []) ⟨hx, hb, hml, hown, hts⟩ (c_X3_merge l D cI t0 t1 t2 tw tn_40 tt_40 _ (tn_40 (v40_3).toNatClampNeg) r1_v7_2 hq14) (cwV 2 hts gX3_unite_X3_merge rfl rfl rfl (by decide +kernel) ⟨Nat.le_of_ble_eq_true rfl, Nat.le_of_ble_eq_true rfl⟩) ⟨PW.blind, va_recv hK hP (ci := 3) (q0 := 0) rfl rfl, fun U hU hW => ⟨rfl, hg U hU hW⟩⟩ rfl rfl hl.1 rfl (lv_room (Nat.le_of_ble_eq_true rfl)) dX3_unite_72 ⟨Nat.le_of_ble_eq_true rfl, Nat.le_of_ble_eq_true rfl⟩) (fun u H locs hw hP hD hS => ?_)
              obtain ⟨u14_0, u14_1⟩ := u
              rw [hw] at he
              try dsimp only at he
              replace hp := hp u14_0 u14_1 hw
              have hP : va_P D vwCl (W_X3 cI t0 t1 t2 tw u14_0 u14_1) H := hP
              have hD : va_D A (W_X3 cI t0 t1 t2 tw u14_0 u14_1) := hD
              refine lv_iinc (v := (v40_3 + 1)) (lv' := [(3, .int (v40_3 + 1)), (2, .int r1_v7_2), (0, .ref t0), (1, .int a1)]) hx hb dX3_unite_75 hl (k := 0) rfl rfl (by decide) rfl (fun ls hl => ?_)
              refine lv_goto (tgt := 40) hx hb dX3_unite_78 (by decide) ?_
              exact ih _ _ _ hp he _ _ hP hD hS _ (lv_sub hl [0, 1, 2, 3] rfl)
    exact loop7 15 (0 : Int32) tn tt hpL7 hL7 _ _ hP hD hS _ (lv_sub hl [0, 1, 2, 3] rfl)
  have loop1 : ∀ (n : Nat) (v7_2 : Int32) (v7_3 : Int32), p_X3_unite_L7 tn a1 n v7_2 v7_3 → (r1_v7_2, r1_v7_3) = f_X3_unite_L7 tn a1 n v7_2 v7_3 → ∀ (H : Heap) (locs : List Loc), va_P D vwCl (W_X3 cI t0 t1 t2 tw tn tt) H → va_D A (W_X3 cI t0 t1 t2 tw tn tt) → va_S A s.heap H locs → ∀ ls : Array Slot, lv_has ls 4 [(3, .int v7_3), (2, .int v7_2), (0, .ref t0), (1, .int a1)] → W p l e (headSpec wsX3_unite rm_X3_unite).room s m ([.ref t0, .int a1] : List Value).toArray below meth c H locs 0 0 (MQ below (Q_X3_unite D cI t0 t1 t2 tw tn tt a1 A) ([.ref t0, .int a1] : List Value).toArray s 0 0 A) (F0 m 7 ls []) := by
    intro n
    induction n with
    | zero => exact fun _ _ hp => hp.elim
    | succ n ih =>
      intro v7_2 v7_3 hp he H locs hP hD hS ls hl
      replace hp := Eq.mp (p_X3_unite_L7.eq_2 ..) hp
      replace he := he.trans (f_X3_unite_L7.eq_2 ..)
      refine lv_iload_n hx hb dX3_unite_7 rfl (lv_at hl 0 rfl) ?_
      refine lv_bipush (v := 14) hx hb dX3_unite_8 (by decide) ?_
      refine lv_icmp_ge (tgt := 38) hx hb dX3_unite_10 (by decide) (fun c2 => ?_) (fun c2 => ?_)
      · replace hp := hp.1 c2
        replace he := he.trans (if_pos c2)
        exact kont1 _ _ he _ _ hP hD hS _ (lv_sub hl [1, 2, 3] rfl)
      · replace hp := hp.2 c2
        replace he := he.trans (if_neg c2)
        refine lv_iload_n hx hb dX3_unite_13 rfl (lv_at hl 3 rfl) ?_
        refine lv_iload_n hx hb dX3_unite_14 rfl (lv_at hl 0 rfl) ?_
        refine k_calli (S := Unit) (wc := ([] : va_W)) (wr := (W_X3 cI t0 t1 t2 tw tn tt)) (w1 := fun u => ([] : va_W)) (fun u => (W_X3 cI t0 t1 t2 tw tn tt)) hP hK hD hN hS hA [] [0, 1, 2] rfl rfl (by decide) (by decide) (by decide) [0, 1, 2] (by decide) (fun _ => rfl) (fun hg => va_runSN (As := [.int a1, .int v7_3]) (rest := []) ⟨hx, hb, hml, hown, hts⟩ (c_X4_has l D cI _ a1 v7_3) ⟨va_cnB 2 hts gX3_unite_X4_has_n36 rfl rfl rfl (hN.at 7 rfl) (hts (.initialized RX4) (by decide +kernel)) (by decide +kernel) ⟨Nat.le_of_ble_eq_true rfl, Nat.le_of_ble_eq_true rfl⟩, hts (.static yX4_has) (by decide +kernel), trivial⟩ ⟨PW.blind, fun U hU hW => ⟨rfl, hg U hU hW⟩⟩ rfl rfl hl.1 rfl (lv_room (Nat.le_of_ble_eq_true rfl)) dX3_unite_15 ⟨Nat.le_of_ble_eq_true rfl, Nat.le_of_ble_eq_true rfl⟩) (fun r3 u H locs hw hP hD hS => ?_)
        obtain ⟨hw, hb3⟩ := hw
        subst hw
        refine lv_if_eq (tgt := 32) hx hb dX3_unite_18 (by decide) (fun c4 => ?_) (fun c4 => ?_)
        · replace hp := hp.1 c4
          replace he := he.trans (if_pos c4)
          refine lv_iinc (v := (v7_3 + 1)) (lv' := [(3, .int (v7_3 + 1)), (2, .int v7_2), (0, .ref t0), (1, .int a1)]) hx hb dX3_unite_32 hl (k := 0) rfl rfl (by decide) rfl (fun ls hl => ?_)
          refine lv_goto (tgt := 7) hx hb dX3_unite_35 (by decide) ?_
          exact ih _ _ hp he _ _ hP hD hS _ (lv_sub hl [0, 1, 2, 3] rfl)
        · replace hp := hp.2 c4
          replace he := he.trans (if_neg c4)
          refine lv_iload_n hx hb dX3_unite_21 rfl (lv_at hl 1 rfl) ?_
          refine lv_aload_n hx hb dX3_unite_22 rfl (lv_at hl 2 rfl) ?_
          refine va_get (D := D) (ci := 3) (v := .ref t1) (C := RX3) (T := TX3) (N := 3) hx hb hts (by decide +kernel) hown hK hP 0 rfl rfl 0 (by decide) (hts (.fieldLink RX3 9 "Alarmgrove$Tickets" "numbers" "[I") (by decide +kernel)) (fun _ h9 => h9) rfl dX3_unite_23 ?_
          refine lv_iload_n hx hb dX3_unite_26 rfl (lv_at hl 0 rfl) ?_
          have h5 := hp.1
          replace hp := hp.2
          refine va_iald hx hb hK hP 1 0 rfl rfl h5 dX3_unite_27 ?_
          refine va_mmin hx hb (by rw [hml]; exact hl.1.symm) hown (hts (.methodLink RX3 40 Lib.Math.min.name) (by decide +kernel)) (hts (.static Lib.Math.min.name) (by decide +kernel)) (hts (.initialized "java/lang/Math") (by decide +kernel)) (hts (.code Lib.Math.min.name Lib.Math.min.code 2 (some .int)) (by decide +kernel)) (Nat.le_of_ble_eq_true rfl) (Nat.le_of_ble_eq_true rfl) (Nat.le_of_ble_eq_true rfl) (Nat.le_of_ble_eq_true rfl) dX3_unite_28 ?_
          refine lv_topi (fun y6_2 hy6 => ?_)
          rw [← hy6] at he
          try dsimp only at he
          replace hp := hp y6_2 hy6.symm
          refine lv_istore_n (lv' := [(2, .int y6_2), (3, .int v7_3), (0, .ref t0), (1, .int a1)]) hx hb dX3_unite_31 rfl hl (by decide) rfl (fun ls hl => ?_)
          refine lv_iinc (v := (v7_3 + 1)) (lv' := [(3, .int (v7_3 + 1)), (2, .int y6_2), (0, .ref t0), (1, .int a1)]) hx hb dX3_unite_32 hl (k := 1) rfl rfl (by decide) rfl (fun ls hl => ?_)
          refine lv_goto (tgt := 7) hx hb dX3_unite_35 (by decide) ?_
          exact ih _ _ hp he _ _ hP hD hS _ (lv_sub hl [0, 1, 2, 3] rfl)
  exact loop1 15 tw (0 : Int32) hpL1 hL1 _ _ hP hD hS _ (lv_sub hl [0, 1, 2, 3] rfl)
abbrev rm_X3_join : Room := { frames := 3, cells := 0, slots := 0, locals := 67 }
abbrev Q_X3_join (D : va_G) (cI : ClassId) (t0 t1 t2 : Nat) (tw : Int32) (tn : AA) (tt : AA) (a1 a2 : Int32) (A : Nat → Prop) : Array Value → State → Outcome → State → Prop := va_Qi (S := Int32 × AA × AA) (fun r u => f_X3_join tw tn tt a1 a2 = (r, u)) (fun u t => QW D [(cI, .int)] A (W_X3 cI t0 t1 t2 u.1 u.2.1 u.2.2) t) A
set_option maxHeartbeats 4000000 in
set_option maxRecDepth 100000 in
theorem c_X3_join (l : Launch)  (D : va_G) (cI : ClassId) (t0 t1 t2 : Nat) (tw : Int32) (tn : AA) (tt : AA) (sz : Nat) (a1 a2 : Int32) (hp : p_X3_join tw tn tt a1 a2) : Met l yX3_join wsX3_join rm_X3_join (va_Pc [.ref t0, .int a1, .int a2] (PW D [(cI, .int)] sz (W_X3 cI t0 t1 t2 tw tn tt))) (Q_X3_join D cI t0 t1 t2 tw tn tt a1 a2 (va_A (W_X3 cI t0 t1 t2 tw tn tt) sz)) 0 0 (va_A (W_X3 cI t0 t1 t2 tw tn tt) sz) := by
  refine Met.ofW (cc := cX3_join) (maxL := 3) (ret := (some .int)) (by decide) rfl ?_
  intro p e s m args below meth c s₁ B hml hv
  obtain ⟨rfl, hsz, hP, hK, hD0, hN⟩ := hv
  have hx := B.exec
  have hb := B.bytes
  have hr := B.returns
  have hts := atoms_spec (ws := wsX3_join) B.pre
  have hown : s.vm.findClass RX3 = some m.cls := findClass_of_methodNamed B.named
  have hlocks := B.notSynchronized
  subst hsz
  have hD := hD0.self (sz := s.heap.size)
  generalize hAe : va_A (W_X3 cI t0 t1 t2 tw tn tt) s.heap.size = A at hD ⊢
  have hA : ∀ q : Nat, s.heap.size ≤ q → A q := fun q h => by rw [← hAe]; exact Or.inr h
  have hS : va_S A s.heap s.heap [] := va_S.rf
  have hl := lv_entry ([.ref t0, .int a1, .int a2]) (n := 3) (Nat.le_of_ble_eq_true rfl)
  rw [lg_entry_eq]
  generalize (lg_sl ([.ref t0, .int a1, .int a2]) ++ List.replicate (3 - (lg_sl ([.ref t0, .int a1, .int a2])).length) Slot.unset).toArray = ls at hl ⊢
  have hl : lv_has ls 3 [(0, .ref t0), (1, .int a1), (2, .int a2)] := hl
  have he := f_X3_join.eq_1 tw tn tt a1 a2
  replace hp := Eq.mp (p_X3_join.eq_1 ..) hp
  refine lv_iload_n hx hb dX3_join_0 rfl (lv_at hl 2 rfl) ?_
  refine lv_if_ne (tgt := 27) hx hb dX3_join_1 (by decide) (fun c1 => ?_) (fun c1 => ?_)
  · replace hp := hp.2 c1
    replace he := he.trans (if_neg c1)
    refine lv_aload_n hx hb dX3_join_27 rfl (lv_at hl 0 rfl) ?_
    refine va_get (D := D) (ci := 3) (v := .ref t1) (C := RX3) (T := TX3) (N := 3) hx hb hts (by decide +kernel) hown hK hP 0 rfl rfl 0 (by decide) (hts (.fieldLink RX3 9 "Alarmgrove$Tickets" "numbers" "[I") (by decide +kernel)) (fun _ h9 => h9) rfl dX3_join_28 ?_
    refine lv_iload_n hx hb dX3_join_31 rfl (lv_at hl 1 rfl) ?_
    refine lv_aload_n hx hb dX3_join_32 rfl (lv_at hl 0 rfl) ?_
    refine lv_iload_n hx hb dX3_join_33 rfl (lv_at hl 2 rfl) ?_
    have hq2 := hp.1
    replace hp := hp.2
    refine k_calli (S := AA × AA) (wc := (W_X3 cI t0 t1 t2 tw tn tt)) (wr := ([] : va_W)) (w1 := fun u => (W_X3 cI t0 t1 t2 tw u.1 u.2)) (fun u => (W_X3 cI t0 t1 t2 tw u.1 u.2)) hP hK hD hN hS hA [0, 1, 2] [] rfl rfl (by decide) (by decide) (by decide) [0, 1, 2] (by decide) (fun _ => rfl) (fun hg => va_runV (As := [.int a2]) (rest := [.int a1, .ref t1]) ⟨hx, hb, hml, hown, hts⟩ (c_X3_unite l D cI t0 t1 t2 tw tn tt _ a2 hq2) (cwV 1 hts gX3_join_X3_unite rfl rfl rfl (by decide +kernel) ⟨Nat.le_of_ble_eq_true rfl, Nat.le_of_ble_eq_true rfl⟩) ⟨PW.blind, va_recv hK hP (ci := 3) (q0 := 0) rfl rfl, fun U hU hW => ⟨rfl, hg U hU hW⟩⟩ rfl rfl hl.1 rfl (lv_room (Nat.le_of_ble_eq_true rfl)) dX3_join_34 ⟨Nat.le_of_ble_eq_true rfl, Nat.le_of_ble_eq_true rfl⟩) (fun r2 u H locs hw hP hD hS => ?_)
    obtain ⟨u2_0, u2_1⟩ := u
    rw [hw] at he
    try dsimp only at he
    replace hp := hp r2 u2_0 u2_1 hw
    have hP : va_P D vwCl (W_X3 cI t0 t1 t2 tw u2_0 u2_1) H := hP
    have hD : va_D A (W_X3 cI t0 t1 t2 tw u2_0 u2_1) := hD
    have h3 := hp.1
    replace hp := hp.2
    refine va_iast hx hb hK hP hD hS 1 0 rfl rfl h3 dX3_join_37 (fun H locs hP hD hS => ?_)
    have hP : va_P D vwCl (W_X3 cI t0 t1 t2 tw (upd u2_0 (a1).toNatClampNeg r2) u2_1) H := hP
    have hD : va_D A (W_X3 cI t0 t1 t2 tw (upd u2_0 (a1).toNatClampNeg r2) u2_1) := hD
    refine lv_aload_n hx hb dX3_join_38 rfl (lv_at hl 0 rfl) ?_
    refine va_get (D := D) (ci := 3) (v := .ref t1) (C := RX3) (T := TX3) (N := 3) hx hb hts (by decide +kernel) hown hK hP 0 rfl rfl 0 (by decide) (hts (.fieldLink RX3 9 "Alarmgrove$Tickets" "numbers" "[I") (by decide +kernel)) (fun _ h9 => h9) rfl dX3_join_39 ?_
    refine lv_iload_n hx hb dX3_join_42 rfl (lv_at hl 1 rfl) ?_
    have h4 := hp.1
    replace hp := hp.2
    refine va_iald hx hb hK hP 1 0 rfl rfl h4 dX3_join_43 ?_
    exact W.iret (v := ((upd u2_0 (a1).toNatClampNeg r2) (a1).toNatClampNeg)) hx hb hr (fun t ht hW => ⟨⟨((upd u2_0 (a1).toNatClampNeg r2) (a1).toNatClampNeg), (tw, (upd u2_0 (a1).toNatClampNeg r2), u2_1), rfl, he, by rw [ht]; exact hP, va_K.moved hW.alike hK, hD⟩, hS.F ht⟩) hS.2.2 dX3_join_44
  · replace hp := hp.1 c1
    replace he := he.trans (if_pos c1)
    refine lv_aload_n hx hb dX3_join_4 rfl (lv_at hl 0 rfl) ?_
    refine lv_dup hx hb dX3_join_5 rfl ?_
    refine va_get (D := D) (ci := 3) (v := .int tw) (C := RX3) (T := TX3) (N := 3) hx hb hts (by decide +kernel) hown hK hP 0 rfl rfl 2 (by decide) (hts (.fieldLink RX3 18 "Alarmgrove$Tickets" "newest" "I") (by decide +kernel)) (fun _ h9 => h9) rfl dX3_join_6 ?_
    refine lv_iconst (v := 1) hx hb dX3_join_9 (by decide) ?_
    refine lv_iadd hx hb dX3_join_10 ?_
    refine va_put (D := D) (ci := 3) (v := .int (tw + 1)) (ty := .int) (C := RX3) (T := TX3) (N := 3) hx hb hts (by decide +kernel) tyX3 tyX3_ok nmX3 hown hK hP hD hS 0 rfl rfl 2 (by decide) (hts (.fieldLink RX3 18 "Alarmgrove$Tickets" "newest" "I") (by decide +kernel)) (fun _ h9 => h9) rfl (by decide +kernel) rfl rfl (Nat.le_of_ble_eq_true rfl) dX3_join_11 (fun H locs hP hD hS => ?_)
    have hP : va_P D vwCl (W_X3 cI t0 t1 t2 (tw + 1) tn tt) H := hP
    have hD : va_D A (W_X3 cI t0 t1 t2 (tw + 1) tn tt) := hD
    refine lv_aload_n hx hb dX3_join_14 rfl (lv_at hl 0 rfl) ?_
    refine va_get (D := D) (ci := 3) (v := .ref t1) (C := RX3) (T := TX3) (N := 3) hx hb hts (by decide +kernel) hown hK hP 0 rfl rfl 0 (by decide) (hts (.fieldLink RX3 9 "Alarmgrove$Tickets" "numbers" "[I") (by decide +kernel)) (fun _ h9 => h9) rfl dX3_join_15 ?_
    refine lv_iload_n hx hb dX3_join_18 rfl (lv_at hl 1 rfl) ?_
    refine lv_aload_n hx hb dX3_join_19 rfl (lv_at hl 0 rfl) ?_
    refine va_get (D := D) (ci := 3) (v := .int (tw + 1)) (C := RX3) (T := TX3) (N := 3) hx hb hts (by decide +kernel) hown hK hP 0 rfl rfl 2 (by decide) (hts (.fieldLink RX3 18 "Alarmgrove$Tickets" "newest" "I") (by decide +kernel)) (fun _ h9 => h9) rfl dX3_join_20 ?_
    have h5 := hp.1
    replace hp := hp.2
    refine va_iast hx hb hK hP hD hS 1 0 rfl rfl h5 dX3_join_23 (fun H locs hP hD hS => ?_)
    have hP : va_P D vwCl (W_X3 cI t0 t1 t2 (tw + 1) (upd tn (a1).toNatClampNeg (tw + 1)) tt) H := hP
    have hD : va_D A (W_X3 cI t0 t1 t2 (tw + 1) (upd tn (a1).toNatClampNeg (tw + 1)) tt) := hD
    refine lv_goto (tgt := 38) hx hb dX3_join_24 (by decide) ?_
    refine lv_aload_n hx hb dX3_join_38 rfl (lv_at hl 0 rfl) ?_
    refine va_get (D := D) (ci := 3) (v := .ref t1) (C := RX3) (T := TX3) (N := 3) hx hb hts (by decide +kernel) hown hK hP 0 rfl rfl 0 (by decide) (hts (.fieldLink RX3 9 "Alarmgrove$Tickets" "numbers" "[I") (by decide +kernel)) (fun _ h9 => h9) rfl dX3_join_39 ?_
    refine lv_iload_n hx hb dX3_join_42 rfl (lv_at hl 1 rfl) ?_
    have h6 := hp.1
    replace hp := hp.2
    refine va_iald hx hb hK hP 1 0 rfl rfl h6 dX3_join_43 ?_
    exact W.iret (v := ((upd tn (a1).toNatClampNeg (tw + 1)) (a1).toNatClampNeg)) hx hb hr (fun t ht hW => ⟨⟨((upd tn (a1).toNatClampNeg (tw + 1)) (a1).toNatClampNeg), ((tw + 1), (upd tn (a1).toNatClampNeg (tw + 1)), tt), rfl, he, by rw [ht]; exact hP, va_K.moved hW.alike hK, hD⟩, hS.F ht⟩) hS.2.2 dX3_join_44
abbrev rm_X3_init : Room := { frames := 1, cells := 2, slots := 315, locals := 12 }
abbrev Q_X3_init (D : va_G) (cI : ClassId) (t0 : Nat) (A : Nat → Prop) : Array Value → State → Outcome → State → Prop := va_Qv (S := (AA × AA) × (Nat × Nat)) (fun u => f_X3_init = u.1) (fun u t => QW D [(cI, .int)] A (W_X3 cI t0 u.2.1 u.2.2 0 u.1.1 u.1.2) t) A
set_option maxHeartbeats 4000000 in
set_option maxRecDepth 100000 in
theorem c_X3_init (l : Launch)  (D : va_G) (cI : ClassId) (t0 : Nat) (sz : Nat) (hp : p_X3_init) : Met l yX3_init wsX3_init rm_X3_init (va_Pc [.ref t0] (PW D [(cI, .int)] sz [(t0, .inr (3, [.null, .null, .int 0]))])) (Q_X3_init D cI t0 (va_A [(t0, .inr (3, [.null, .null, .int 0]))] sz)) 2 315 (va_A [(t0, .inr (3, [.null, .null, .int 0]))] sz) := by
  refine Met.ofW (cc := cX3_init) (maxL := 2) (ret := none) (by decide) rfl ?_
  intro p e s m args below meth c s₁ B hml hv
  obtain ⟨rfl, hsz, hP, hK, hD0, hN⟩ := hv
  have hx := B.exec
  have hb := B.bytes
  have hr := B.returns
  have hts := atoms_spec (ws := wsX3_init) B.pre
  have hown : s.vm.findClass RX3 = some m.cls := findClass_of_methodNamed B.named
  have hlocks := B.notSynchronized
  have hin : meth.name = "<init>" := (name_of_methodNamed B.named B.method).1
  subst hsz
  have hD := hD0.self (sz := s.heap.size)
  generalize hAe : va_A [(t0, .inr (3, [.null, .null, .int 0]))] s.heap.size = A at hD ⊢
  have hA : ∀ q : Nat, s.heap.size ≤ q → A q := fun q h => by rw [← hAe]; exact Or.inr h
  have hS : va_S A s.heap s.heap [] := va_S.rf
  have hl := lv_entry ([.ref t0]) (n := 2) (Nat.le_of_ble_eq_true rfl)
  rw [lg_entry_eq]
  generalize (lg_sl ([.ref t0]) ++ List.replicate (2 - (lg_sl ([.ref t0])).length) Slot.unset).toArray = ls at hl ⊢
  have hl : lv_has ls 2 [(0, .ref t0)] := hl
  have he := f_X3_init.eq_1
  replace hp := Eq.mp (p_X3_init.eq_1) hp
  refine lv_aload_n hx hb dX3_init_0 rfl (lv_at hl 0 rfl) ?_
  refine W.objInit hx hb hown (hts (.methodLink RX3 3 objectInit) (by decide +kernel)) (hts (.instanceMethod objectInit) (by decide +kernel)) (hts (.code objectInit ⟨#[0xb1]⟩ 1 none) (by decide +kernel)) rfl (by rw [hml]; exact hl.1) rfl dX3_init_1 (Nat.le_of_ble_eq_true rfl) (Nat.le_of_ble_eq_true rfl) ?_
  refine W.eq (g2 := F0 m 4 ls []) rfl ?_
  refine lv_aload_n hx hb dX3_init_4 rfl (lv_at hl 0 rfl) ?_
  refine lv_bipush (v := 14) hx hb dX3_init_5 (by decide) ?_
  refine k_newI (N' := 14) hx hb (hts (.arrayClass .int) (by decide +kernel)) hK hP hD hS hA (by decide) (by decide) (by decide) (Nat.le_of_ble_eq_true rfl) (Nat.le_of_ble_eq_true rfl) dX3_init_7 (fun q7 H hP hD hS => ?_)
  have hP : va_P D vwCl ([(t0, .inr (3, [.null, .null, .int 0]))] ++ (W_A cI q7 (fun _ => 0))) H := hP
  have hD : va_D A ([(t0, .inr (3, [.null, .null, .int 0]))] ++ (W_A cI q7 (fun _ => 0))) := hD
  refine va_putF (D := D) (ci := 3) (v := .ref q7) (ty := (.array .int)) (C := RX3) (T := TX3) (N := 3) hx hb hts (by decide +kernel) tyX3 tyX3_ok nmX3 hown hK hP hD hS 0 rfl rfl 0 (by decide) (hts (.fieldLink RX3 9 "Alarmgrove$Tickets" "numbers" "[I") (by decide +kernel)) (fun _ h9 => h9) rfl hin rfl (by decide +kernel) rfl rfl (Nat.le_of_ble_eq_true rfl) dX3_init_9 (fun H locs hP hD hS => ?_)
  have hP : va_P D vwCl ([(t0, .inr (3, [.ref q7, .null, .int 0]))] ++ (W_A cI q7 (fun _ => 0))) H := hP
  have hD : va_D A ([(t0, .inr (3, [.ref q7, .null, .int 0]))] ++ (W_A cI q7 (fun _ => 0))) := hD
  refine lv_aload_n hx hb dX3_init_12 rfl (lv_at hl 0 rfl) ?_
  refine lv_sipush (v := 301) hx hb dX3_init_13 (by decide) ?_
  refine k_newI (N' := 301) hx hb (hts (.arrayClass .int) (by decide +kernel)) hK hP hD hS hA (by decide) (by decide) (by decide) (Nat.le_of_ble_eq_true rfl) (Nat.le_of_ble_eq_true rfl) dX3_init_16 (fun q16 H hP hD hS => ?_)
  have hP : va_P D vwCl ([(t0, .inr (3, [.ref q7, .null, .int 0]))] ++ (W_A cI q7 (fun _ => 0)) ++ [(q16, .inl (cI, 301, .inl (fun _ => 0)))]) H := hP
  have hD : va_D A ([(t0, .inr (3, [.ref q7, .null, .int 0]))] ++ (W_A cI q7 (fun _ => 0)) ++ [(q16, .inl (cI, 301, .inl (fun _ => 0)))]) := hD
  refine va_putF (D := D) (ci := 3) (v := .ref q16) (ty := (.array .int)) (C := RX3) (T := TX3) (N := 3) hx hb hts (by decide +kernel) tyX3 tyX3_ok nmX3 hown hK hP hD hS 0 rfl rfl 1 (by decide) (hts (.fieldLink RX3 15 "Alarmgrove$Tickets" "targets" "[I") (by decide +kernel)) (fun _ h9 => h9) rfl hin rfl (by decide +kernel) rfl rfl (Nat.le_of_ble_eq_true rfl) dX3_init_18 (fun H locs hP hD hS => ?_)
  have hP : va_P D vwCl (W_X3 cI t0 q7 q16 0 (fun _ => 0) (fun _ => 0)) H := hP
  have hD : va_D A (W_X3 cI t0 q7 q16 0 (fun _ => 0) (fun _ => 0)) := hD
  refine lv_aload_n hx hb dX3_init_21 rfl (lv_at hl 0 rfl) ?_
  refine lv_iconst (v := 0) hx hb dX3_init_22 (by decide) ?_
  refine va_put (D := D) (ci := 3) (v := .int 0) (ty := .int) (C := RX3) (T := TX3) (N := 3) hx hb hts (by decide +kernel) tyX3 tyX3_ok nmX3 hown hK hP hD hS 0 rfl rfl 2 (by decide) (hts (.fieldLink RX3 18 "Alarmgrove$Tickets" "newest" "I") (by decide +kernel)) (fun _ h9 => h9) rfl (by decide +kernel) rfl rfl (Nat.le_of_ble_eq_true rfl) dX3_init_23 (fun H locs hP hD hS => ?_)
  have hP : va_P D vwCl (W_X3 cI t0 q7 q16 0 (fun _ => 0) (fun _ => 0)) H := hP
  have hD : va_D A (W_X3 cI t0 q7 q16 0 (fun _ => 0) (fun _ => 0)) := hD
  refine lv_iconst (v := 0) hx hb dX3_init_26 (by decide) ?_
  refine lv_istore_n (lv' := [(1, .int 0), (0, .ref t0)]) hx hb dX3_init_27 rfl hl (by decide) rfl (fun ls hl => ?_)
  obtain ⟨⟨r1_v28_1, r1_c_q7_28⟩, hL1⟩ : ∃ z, z = f_X3_init_L28 15 (0 : Int32) (fun _ => 0) := ⟨_, rfl⟩
  rw [← hL1] at he
  try dsimp only at he
  have hpL1 := hp.1
  replace hp := hp.2 _ _ hL1.symm
  have kont1 : ∀ (x1_v28_1 : Int32) (x1_c_q7_28 : AA), (r1_v28_1, r1_c_q7_28) = (x1_v28_1, x1_c_q7_28) → ∀ (H : Heap) (locs : List Loc), va_P D vwCl (W_X3 cI t0 q7 q16 0 x1_c_q7_28 (fun _ => 0)) H → va_D A (W_X3 cI t0 q7 q16 0 x1_c_q7_28 (fun _ => 0)) → va_S A s.heap H locs → ∀ ls : Array Slot, lv_has ls 2 [(0, .ref t0)] → W p l e (headSpec wsX3_init rm_X3_init).room s m ([.ref t0] : List Value).toArray below meth c H locs 2 315 (MQ below (Q_X3_init D cI t0 A) ([.ref t0] : List Value).toArray s 2 315 A) (F0 m 47 ls []) := by
    intro x1_v28_1 x1_c_q7_28 hxe H locs hP hD hS ls hl
    simp only [Prod.mk.injEq] at hxe
    obtain ⟨rfl, rfl⟩ := hxe
    refine lv_iconst (v := 0) hx hb dX3_init_47 (by decide) ?_
    refine lv_istore_n (lv' := [(1, .int 0), (0, .ref t0)]) hx hb dX3_init_48 rfl hl (by decide) rfl (fun ls hl => ?_)
    obtain ⟨⟨r4_v49_1, r4_c_q16_49⟩, hL4⟩ : ∃ z, z = f_X3_init_L49 302 (0 : Int32) (fun _ => 0) := ⟨_, rfl⟩
    rw [← hL4] at he
    try dsimp only at he
    have hpL4 := hp.1
    replace hp := hp.2 _ _ hL4.symm
    have kont4 : ∀ (x4_v49_1 : Int32) (x4_c_q16_49 : AA), (r4_v49_1, r4_c_q16_49) = (x4_v49_1, x4_c_q16_49) → ∀ (H : Heap) (locs : List Loc), va_P D vwCl (W_X3 cI t0 q7 q16 0 r1_c_q7_28 x4_c_q16_49) H → va_D A (W_X3 cI t0 q7 q16 0 r1_c_q7_28 x4_c_q16_49) → va_S A s.heap H locs → ∀ ls : Array Slot, lv_has ls 2 [] → W p l e (headSpec wsX3_init rm_X3_init).room s m ([.ref t0] : List Value).toArray below meth c H locs 2 315 (MQ below (Q_X3_init D cI t0 A) ([.ref t0] : List Value).toArray s 2 315 A) (F0 m 69 ls []) := by
      intro x4_v49_1 x4_c_q16_49 hxe H locs hP hD hS ls hl
      simp only [Prod.mk.injEq] at hxe
      obtain ⟨rfl, rfl⟩ := hxe
      exact W.vret hx hb hr (fun t ht hW => ⟨⟨((r1_c_q7_28, r4_c_q16_49), (q7, q16)), rfl, he, by rw [ht]; exact hP, va_K.moved hW.alike hK, hD⟩, hS.F ht⟩) hS.2.2 dX3_init_69
    have loop4 : ∀ (n : Nat) (v49_1 : Int32) (c_q16_49 : AA), p_X3_init_L49 n v49_1 c_q16_49 → (r4_v49_1, r4_c_q16_49) = f_X3_init_L49 n v49_1 c_q16_49 → ∀ (H : Heap) (locs : List Loc), va_P D vwCl (W_X3 cI t0 q7 q16 0 r1_c_q7_28 c_q16_49) H → va_D A (W_X3 cI t0 q7 q16 0 r1_c_q7_28 c_q16_49) → va_S A s.heap H locs → ∀ ls : Array Slot, lv_has ls 2 [(1, .int v49_1), (0, .ref t0)] → W p l e (headSpec wsX3_init rm_X3_init).room s m ([.ref t0] : List Value).toArray below meth c H locs 2 315 (MQ below (Q_X3_init D cI t0 A) ([.ref t0] : List Value).toArray s 2 315 A) (F0 m 49 ls []) := by
      intro n
      induction n with
      | zero => exact fun _ _ hp => hp.elim
      | succ n ih =>
        intro v49_1 c_q16_49 hp he H locs hP hD hS ls hl
        replace hp := Eq.mp (p_X3_init_L49.eq_2 ..) hp
        replace he := he.trans (f_X3_init_L49.eq_2 ..)
        refine lv_iload_n hx hb dX3_init_49 rfl (lv_at hl 0 rfl) ?_
        refine lv_sipush (v := 300) hx hb dX3_init_50 (by decide) ?_
        refine lv_icmp_gt (tgt := 69) hx hb dX3_init_53 (by decide) (fun c5 => ?_) (fun c5 => ?_)
        · replace hp := hp.1 c5
          replace he := he.trans (if_pos c5)
          exact kont4 _ _ he _ _ hP hD hS _ (lv_sub hl [] rfl)
        · replace hp := hp.2 c5
          replace he := he.trans (if_neg c5)
          refine lv_aload_n hx hb dX3_init_56 rfl (lv_at hl 1 rfl) ?_
          refine va_get (D := D) (ci := 3) (v := .ref q16) (C := RX3) (T := TX3) (N := 3) hx hb hts (by decide +kernel) hown hK hP 0 rfl rfl 1 (by decide) (hts (.fieldLink RX3 15 "Alarmgrove$Tickets" "targets" "[I") (by decide +kernel)) (fun _ h9 => h9) rfl dX3_init_57 ?_
          refine lv_iload_n hx hb dX3_init_60 rfl (lv_at hl 0 rfl) ?_
          refine lv_iconst (v := (-1)) hx hb dX3_init_61 (by decide) ?_
          have h6 := hp.1
          replace hp := hp.2
          refine va_iast hx hb hK hP hD hS 2 0 rfl rfl h6 dX3_init_62 (fun H locs hP hD hS => ?_)
          have hP : va_P D vwCl (W_X3 cI t0 q7 q16 0 r1_c_q7_28 (upd c_q16_49 (v49_1).toNatClampNeg (-1))) H := hP
          have hD : va_D A (W_X3 cI t0 q7 q16 0 r1_c_q7_28 (upd c_q16_49 (v49_1).toNatClampNeg (-1))) := hD
          refine lv_iinc (v := (v49_1 + 1)) (lv' := [(1, .int (v49_1 + 1)), (0, .ref t0)]) hx hb dX3_init_63 hl (k := 0) rfl rfl (by decide) rfl (fun ls hl => ?_)
          refine lv_goto (tgt := 49) hx hb dX3_init_66 (by decide) ?_
          exact ih _ _ hp he _ _ hP hD hS _ (lv_sub hl [0, 1] rfl)
    exact loop4 302 (0 : Int32) (fun _ => 0) hpL4 hL4 _ _ hP hD hS _ (lv_sub hl [0, 1] rfl)
  have loop1 : ∀ (n : Nat) (v28_1 : Int32) (c_q7_28 : AA), p_X3_init_L28 n v28_1 c_q7_28 → (r1_v28_1, r1_c_q7_28) = f_X3_init_L28 n v28_1 c_q7_28 → ∀ (H : Heap) (locs : List Loc), va_P D vwCl (W_X3 cI t0 q7 q16 0 c_q7_28 (fun _ => 0)) H → va_D A (W_X3 cI t0 q7 q16 0 c_q7_28 (fun _ => 0)) → va_S A s.heap H locs → ∀ ls : Array Slot, lv_has ls 2 [(1, .int v28_1), (0, .ref t0)] → W p l e (headSpec wsX3_init rm_X3_init).room s m ([.ref t0] : List Value).toArray below meth c H locs 2 315 (MQ below (Q_X3_init D cI t0 A) ([.ref t0] : List Value).toArray s 2 315 A) (F0 m 28 ls []) := by
    intro n
    induction n with
    | zero => exact fun _ _ hp => hp.elim
    | succ n ih =>
      intro v28_1 c_q7_28 hp he H locs hP hD hS ls hl
      replace hp := Eq.mp (p_X3_init_L28.eq_2 ..) hp
      replace he := he.trans (f_X3_init_L28.eq_2 ..)
      refine lv_iload_n hx hb dX3_init_28 rfl (lv_at hl 0 rfl) ?_
      refine lv_bipush (v := 14) hx hb dX3_init_29 (by decide) ?_
      refine lv_icmp_ge (tgt := 47) hx hb dX3_init_31 (by decide) (fun c2 => ?_) (fun c2 => ?_)
      · replace hp := hp.1 c2
        replace he := he.trans (if_pos c2)
        exact kont1 _ _ he _ _ hP hD hS _ (lv_sub hl [1] rfl)
      · replace hp := hp.2 c2
        replace he := he.trans (if_neg c2)
        refine lv_aload_n hx hb dX3_init_34 rfl (lv_at hl 1 rfl) ?_
        refine va_get (D := D) (ci := 3) (v := .ref q7) (C := RX3) (T := TX3) (N := 3) hx hb hts (by decide +kernel) hown hK hP 0 rfl rfl 0 (by decide) (hts (.fieldLink RX3 9 "Alarmgrove$Tickets" "numbers" "[I") (by decide +kernel)) (fun _ h9 => h9) rfl dX3_init_35 ?_
        refine lv_iload_n hx hb dX3_init_38 rfl (lv_at hl 0 rfl) ?_
        refine lv_iconst (v := (-1)) hx hb dX3_init_39 (by decide) ?_
        have h3 := hp.1
        replace hp := hp.2
        refine va_iast hx hb hK hP hD hS 1 0 rfl rfl h3 dX3_init_40 (fun H locs hP hD hS => ?_)
        have hP : va_P D vwCl (W_X3 cI t0 q7 q16 0 (upd c_q7_28 (v28_1).toNatClampNeg (-1)) (fun _ => 0)) H := hP
        have hD : va_D A (W_X3 cI t0 q7 q16 0 (upd c_q7_28 (v28_1).toNatClampNeg (-1)) (fun _ => 0)) := hD
        refine lv_iinc (v := (v28_1 + 1)) (lv' := [(1, .int (v28_1 + 1)), (0, .ref t0)]) hx hb dX3_init_41 hl (k := 0) rfl rfl (by decide) rfl (fun ls hl => ?_)
        refine lv_goto (tgt := 28) hx hb dX3_init_44 (by decide) ?_
        exact ih _ _ hp he _ _ hP hD hS _ (lv_sub hl [0, 1] rfl)
  exact loop1 15 (0 : Int32) (fun _ => 0) hpL1 hL1 _ _ hP hD hS _ (lv_sub hl [0, 1] rfl)
