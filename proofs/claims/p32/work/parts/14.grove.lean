abbrev rm_X4_init : Room := { frames := 2, cells := 14, slots := 1598, locals := 33 }
abbrev Q_X4_init (D : va_G) (cI : ClassId) (x0 : Nat) (A : Nat → Prop) : Array Value → State → Outcome → State → Prop := va_Qv (S := (AA × AA × AA × AA × Int32 × AA × AA × AA × AA × AA × Int32 × AA × AA) × (Nat × Nat × Nat × Nat × Nat × Nat × Nat × Nat × Nat × Nat × Nat × Nat × Nat × Nat)) (fun u => f_X4_init = u.1) (fun u t => QW D [(cI, .int)] A (W_X4 cI x0 u.2.1 u.2.2.1 u.2.2.2.1 u.2.2.2.2.1 u.2.2.2.2.2.1 u.2.2.2.2.2.2.1 u.2.2.2.2.2.2.2.1 u.2.2.2.2.2.2.2.2.1 u.2.2.2.2.2.2.2.2.2.1 u.2.2.2.2.2.2.2.2.2.2.1 u.2.2.2.2.2.2.2.2.2.2.2.1 u.2.2.2.2.2.2.2.2.2.2.2.2.1 u.2.2.2.2.2.2.2.2.2.2.2.2.2.1 u.2.2.2.2.2.2.2.2.2.2.2.2.2.2 0 0 u.1.1 u.1.2.1 u.1.2.2.1 u.1.2.2.2.1 u.1.2.2.2.2.1 u.1.2.2.2.2.2.1 u.1.2.2.2.2.2.2.1 u.1.2.2.2.2.2.2.2.1 u.1.2.2.2.2.2.2.2.2.1 u.1.2.2.2.2.2.2.2.2.2.1 u.1.2.2.2.2.2.2.2.2.2.2.1 u.1.2.2.2.2.2.2.2.2.2.2.2.1 u.1.2.2.2.2.2.2.2.2.2.2.2.2) t) A
set_option maxHeartbeats 4000000 in
set_option maxRecDepth 100000 in
theorem c_X4_init (l : Launch)  (D : va_G) (cI : ClassId) (x0 : Nat) (sz : Nat) (hp : p_X4_init) : Met l yX4_init wsX4_init rm_X4_init (va_Pc [.ref x0] (PW D [(cI, .int)] sz [(x0, .inr (4, [.null, .null, .null, .int 0, .int 0]))])) (Q_X4_init D cI x0 (va_A [(x0, .inr (4, [.null, .null, .null, .int 0, .int 0]))] sz)) 14 1598 (va_A [(x0, .inr (4, [.null, .null, .null, .int 0, .int 0]))] sz) := by
  refine Met.ofW (cc := cX4_init) (maxL := 1) (ret := none) (by decide) rfl ?_
  intro p e s m args below meth c s₁ B hml hv
  obtain ⟨rfl, hsz, hP, hK, hD0, hN⟩ := hv
  have hx := B.exec
  have hb := B.bytes
  have hr := B.returns
  have hts := atoms_spec (ws := wsX4_init) B.pre
  have hown : s.vm.findClass RX4 = some m.cls := findClass_of_methodNamed B.named
  have hlocks := B.notSynchronized
  have hin : meth.name = "<init>" := (name_of_methodNamed B.named B.method).1
  subst hsz
  have hD := hD0.self (sz := s.heap.size)
  generalize hAe : va_A [(x0, .inr (4, [.null, .null, .null, .int 0, .int 0]))] s.heap.size = A at hD ⊢
  have hA : ∀ q : Nat, s.heap.size ≤ q → A q := fun q h => by rw [← hAe]; exact Or.inr h
  have hS : va_S A s.heap s.heap [] := va_S.rf
  have hl := lv_entry ([.ref x0]) (n := 1) (Nat.le_of_ble_eq_true rfl)
  rw [lg_entry_eq]
  generalize (lg_sl ([.ref x0]) ++ List.replicate (1 - (lg_sl ([.ref x0])).length) Slot.unset).toArray = ls at hl ⊢
  have hl : lv_has ls 1 [(0, .ref x0)] := hl
  have he := f_X4_init.eq_1
  replace hp := Eq.mp (p_X4_init.eq_1) hp
  refine lv_aload_n hx hb dX4_init_0 rfl (lv_at hl 0 rfl) ?_
  refine W.objInit hx hb hown (hts (.methodLink RX4 1 objectInit) (by decide +kernel)) (hts (.instanceMethod objectInit) (by decide +kernel)) (hts (.code objectInit ⟨#[0xb1]⟩ 1 none) (by decide +kernel)) rfl (by rw [hml]; exact hl.1) rfl dX4_init_1 (Nat.le_of_ble_eq_true rfl) (Nat.le_of_ble_eq_true rfl) ?_
  refine W.eq (g2 := F0 m 4 ls []) rfl ?_
  refine lv_aload_n hx hb dX4_init_4 rfl (lv_at hl 0 rfl) ?_
  refine va_new (ci := 1) (fs := [.null, .null, .null, .null]) (C := RX1) (T := TX1) (N := 4) hx hb hts (by decide +kernel) tyX1 tyX1_ok hown (hts (.classLink RX4 7 RX1) (by decide +kernel)) (hts (.instantiable RX1 4) (by decide +kernel)) (hts (.initialized RX1) (by decide +kernel)) hK hP hD hS hA rfl (fun j hj => by rcases (show j = 0 ∨ j = 1 ∨ j = 2 ∨ j = 3 by omega) with rfl | rfl | rfl | rfl <;> rfl) (Nat.le_of_ble_eq_true rfl) (Nat.le_of_ble_eq_true rfl) dX4_init_5 (fun q5 H hP hD hS => ?_)
  have hP : va_P D vwCl [(x0, .inr (4, [.null, .null, .null, .int 0, .int 0])), (q5, .inr (1, [.null, .null, .null, .null]))] H := hP
  have hD : va_D A [(x0, .inr (4, [.null, .null, .null, .int 0, .int 0])), (q5, .inr (1, [.null, .null, .null, .null]))] := hD
  refine lv_dup hx hb dX4_init_8 rfl ?_
  refine k_callv (S := (AA × AA × AA × AA) × (Nat × Nat × Nat × Nat)) (wc := [(q5, .inr (1, [.null, .null, .null, .null]))]) (wr := [(x0, .inr (4, [.null, .null, .null, .int 0, .int 0]))]) (w1 := fun u => (W_X1 cI q5 u.2.1 u.2.2.1 u.2.2.2.1 u.2.2.2.2 u.1.1 u.1.2.1 u.1.2.2.1 u.1.2.2.2)) (fun u => ([(x0, .inr (4, [.null, .null, .null, .int 0, .int 0]))] ++ (W_X1 cI q5 u.2.1 u.2.2.1 u.2.2.2.1 u.2.2.2.2 u.1.1 u.1.2.1 u.1.2.2.1 u.1.2.2.2))) hP hK hD hN hS hA [1] [0] rfl rfl (by decide) (by decide) (by decide) [0, 1, 2, 3, 4, 5] (by decide) (fun _ => rfl) (fun hg => va_runIN (As := []) (rest := [.ref q5, .ref x0]) ⟨hx, hb, hml, hown, hts⟩ (c_X1_init l D cI q5 _ ) ⟨va_cnB 0 hts gX4_init_X1_init_n9 rfl rfl rfl (hN.at 1 rfl) (hts (.initialized RX1) (by decide +kernel)) (by decide +kernel) ⟨Nat.le_of_ble_eq_true rfl, Nat.le_of_ble_eq_true rfl⟩, rfl, hts (.instanceMethod yX1_init) (by decide +kernel)⟩ ⟨PW.blind, fun U hU hW => ⟨rfl, hg U hU hW⟩⟩ rfl rfl hl.1 rfl (lv_room (Nat.le_of_ble_eq_true rfl)) dX4_init_9 ⟨Nat.le_of_ble_eq_true rfl, Nat.le_of_ble_eq_true rfl⟩) (fun u H locs hw hP hD hS => ?_)
  obtain ⟨⟨u1_0, u1_1, u1_2, u1_3⟩, ⟨n1_0, n1_1, n1_2, n1_3⟩⟩ := u
  try dsimp only at hw
  rw [hw] at he
  try dsimp only at he
  replace hp := hp u1_0 u1_1 u1_2 u1_3 hw
  have hP : va_P D vwCl ([(x0, .inr (4, [.null, .null, .null, .int 0, .int 0]))] ++ (W_X1 cI q5 n1_0 n1_1 n1_2 n1_3 u1_0 u1_1 u1_2 u1_3)) H := hP
  have hD : va_D A ([(x0, .inr (4, [.null, .null, .null, .int 0, .int 0]))] ++ (W_X1 cI q5 n1_0 n1_1 n1_2 n1_3 u1_0 u1_1 u1_2 u1_3)) := hD
  refine va_putF (D := D) (ci := 4) (v := .ref q5) (ty := (.object "Alarmgrove$Graph")) (C := RX4) (T := TX4) (N := 5) hx hb hts (by decide +kernel) tyX4 tyX4_ok nmX4 hown hK hP hD hS 0 rfl rfl 0 (by decide) (hts (.fieldLink RX4 10 "Alarmgrove" "graph" "LAlarmgrove$Graph;") (by decide +kernel)) (fun _ h9 => h9) rfl hin rfl (by decide +kernel) rfl rfl (Nat.le_of_ble_eq_true rfl) dX4_init_12 (fun H locs hP hD hS => ?_)
  have hP : va_P D vwCl ([(x0, .inr (4, [.ref q5, .null, .null, .int 0, .int 0]))] ++ (W_X1 cI q5 n1_0 n1_1 n1_2 n1_3 u1_0 u1_1 u1_2 u1_3)) H := hP
  have hD : va_D A ([(x0, .inr (4, [.ref q5, .null, .null, .int 0, .int 0]))] ++ (W_X1 cI q5 n1_0 n1_1 n1_2 n1_3 u1_0 u1_1 u1_2 u1_3)) := hD
  refine lv_aload_n hx hb dX4_init_15 rfl (lv_at hl 0 rfl) ?_
  refine va_new (ci := 2) (fs := [.null, .null, .null, .null, .null, .int 0]) (C := RX2) (T := TX2) (N := 6) hx hb hts (by decide +kernel) tyX2 tyX2_ok hown (hts (.classLink RX4 16 RX2) (by decide +kernel)) (hts (.instantiable RX2 6) (by decide +kernel)) (hts (.initialized RX2) (by decide +kernel)) hK hP hD hS hA rfl (fun j hj => by rcases (show j = 0 ∨ j = 1 ∨ j = 2 ∨ j = 3 ∨ j = 4 ∨ j = 5 by omega) with rfl | rfl | rfl | rfl | rfl | rfl <;> rfl) (Nat.le_of_ble_eq_true rfl) (Nat.le_of_ble_eq_true rfl) dX4_init_16 (fun q16 H hP hD hS => ?_)
  have hP : va_P D vwCl ([(x0, .inr (4, [.ref q5, .null, .null, .int 0, .int 0]))] ++ (W_X1 cI q5 n1_0 n1_1 n1_2 n1_3 u1_0 u1_1 u1_2 u1_3) ++ [(q16, .inr (2, [.null, .null, .null, .null, .null, .int 0]))]) H := hP
  have hD : va_D A ([(x0, .inr (4, [.ref q5, .null, .null, .int 0, .int 0]))] ++ (W_X1 cI q5 n1_0 n1_1 n1_2 n1_3 u1_0 u1_1 u1_2 u1_3) ++ [(q16, .inr (2, [.null, .null, .null, .null, .null, .int 0]))]) := hD
  refine lv_dup hx hb dX4_init_19 rfl ?_
  refine k_callv (S := (AA × AA × AA × AA × AA) × (Nat × Nat × Nat × Nat × Nat)) (wc := [(q16, .inr (2, [.null, .null, .null, .null, .null, .int 0]))]) (wr := ([(x0, .inr (4, [.ref q5, .null, .null, .int 0, .int 0]))] ++ (W_X1 cI q5 n1_0 n1_1 n1_2 n1_3 u1_0 u1_1 u1_2 u1_3))) (w1 := fun u => (W_X2 cI q16 u.2.1 u.2.2.1 u.2.2.2.1 u.2.2.2.2.1 u.2.2.2.2.2 0 u.1.1 u.1.2.1 u.1.2.2.1 u.1.2.2.2.1 u.1.2.2.2.2)) (fun u => ([(x0, .inr (4, [.ref q5, .null, .null, .int 0, .int 0]))] ++ (W_X1 cI q5 n1_0 n1_1 n1_2 n1_3 u1_0 u1_1 u1_2 u1_3) ++ (W_X2 cI q16 u.2.1 u.2.2.1 u.2.2.2.1 u.2.2.2.2.1 u.2.2.2.2.2 0 u.1.1 u.1.2.1 u.1.2.2.1 u.1.2.2.2.1 u.1.2.2.2.2))) hP hK hD hN hS hA [6] [0, 1, 2, 3, 4, 5] rfl rfl (by decide) (by decide) (by decide) [0, 1, 2, 3, 4, 5, 6, 7, 8, 9, 10, 11] (by decide) (fun _ => rfl) (fun hg => va_runIN (As := []) (rest := [.ref q16, .ref x0]) ⟨hx, hb, hml, hown, hts⟩ (c_X2_init l D cI q16 _ ) ⟨va_cnB 0 hts gX4_init_X2_init_n18 rfl rfl rfl (hN.at 0 rfl) (hts (.initialized RX2) (by decide +kernel)) (by decide +kernel) ⟨Nat.le_of_ble_eq_true rfl, Nat.le_of_ble_eq_true rfl⟩, rfl, hts (.instanceMethod yX2_init) (by decide +kernel)⟩ ⟨PW.blind, fun U hU hW => ⟨rfl, hg U hU hW⟩⟩ rfl rfl hl.1 rfl (lv_room (Nat.le_of_ble_eq_true rfl)) dX4_init_20 ⟨Nat.le_of_ble_eq_true rfl, Nat.le_of_ble_eq_true rfl⟩) (fun u H locs hw hP hD hS => ?_)
  obtain ⟨⟨u2_0, u2_1, u2_2, u2_3, u2_4⟩, ⟨n2_0, n2_1, n2_2, n2_3, n2_4⟩⟩ := u
  try dsimp only at hw
  rw [hw] at he
  try dsimp only at he
  replace hp := hp u2_0 u2_1 u2_2 u2_3 u2_4 hw
  have hP : va_P D vwCl ([(x0, .inr (4, [.ref q5, .null, .null, .int 0, .int 0]))] ++ (W_X1 cI q5 n1_0 n1_1 n1_2 n1_3 u1_0 u1_1 u1_2 u1_3) ++ (W_X2 cI q16 n2_0 n2_1 n2_2 n2_3 n2_4 0 u2_0 u2_1 u2_2 u2_3 u2_4)) H := hP
  have hD : va_D A ([(x0, .inr (4, [.ref q5, .null, .null, .int 0, .int 0]))] ++ (W_X1 cI q5 n1_0 n1_1 n1_2 n1_3 u1_0 u1_1 u1_2 u1_3) ++ (W_X2 cI q16 n2_0 n2_1 n2_2 n2_3 n2_4 0 u2_0 u2_1 u2_2 u2_3 u2_4)) := hD
  refine va_putF (D := D) (ci := 4) (v := .ref q16) (ty := (.object "Alarmgrove$Log")) (C := RX4) (T := TX4) (N := 5) hx hb hts (by decide +kernel) tyX4 tyX4_ok nmX4 hown hK hP hD hS 0 rfl rfl 1 (by decide) (hts (.fieldLink RX4 19 "Alarmgrove" "log" "LAlarmgrove$Log;") (by decide +kernel)) (fun _ h9 => h9) rfl hin rfl (by decide +kernel) rfl rfl (Nat.le_of_ble_eq_true rfl) dX4_init_23 (fun H locs hP hD hS => ?_)
  have hP : va_P D vwCl ([(x0, .inr (4, [.ref q5, .ref q16, .null, .int 0, .int 0]))] ++ (W_X1 cI q5 n1_0 n1_1 n1_2 n1_3 u1_0 u1_1 u1_2 u1_3) ++ (W_X2 cI q16 n2_0 n2_1 n2_2 n2_3 n2_4 0 u2_0 u2_1 u2_2 u2_3 u2_4)) H := hP
  have hD : va_D A ([(x0, .inr (4, [.ref q5, .ref q16, .null, .int 0, .int 0]))] ++ (W_X1 cI q5 n1_0 n1_1 n1_2 n1_3 u1_0 u1_1 u1_2 u1_3) ++ (W_X2 cI q16 n2_0 n2_1 n2_2 n2_3 n2_4 0 u2_0 u2_1 u2_2 u2_3 u2_4)) := hD
  refine lv_aload_n hx hb dX4_init_26 rfl (lv_at hl 0 rfl) ?_
  refine va_new (ci := 3) (fs := [.null, .null, .int 0]) (C := RX3) (T := TX3) (N := 3) hx hb hts (by decide +kernel) tyX3 tyX3_ok hown (hts (.classLink RX4 23 RX3) (by decide +kernel)) (hts (.instantiable RX3 3) (by decide +kernel)) (hts (.initialized RX3) (by decide +kernel)) hK hP hD hS hA rfl (fun j hj => by rcases (show j = 0 ∨ j = 1 ∨ j = 2 by omega) with rfl | rfl | rfl <;> rfl) (Nat.le_of_ble_eq_true rfl) (Nat.le_of_ble_eq_true rfl) dX4_init_27 (fun q27 H hP hD hS => ?_)
  have hP : va_P D vwCl ([(x0, .inr (4, [.ref q5, .ref q16, .null, .int 0, .int 0]))] ++ (W_X1 cI q5 n1_0 n1_1 n1_2 n1_3 u1_0 u1_1 u1_2 u1_3) ++ (W_X2 cI q16 n2_0 n2_1 n2_2 n2_3 n2_4 0 u2_0 u2_1 u2_2 u2_3 u2_4) ++ [(q27, .inr (3, [.null, .null, .int 0]))]) H := hP
  have hD : va_D A ([(x0, .inr (4, [.ref q5, .ref q16, .null, .int 0, .int 0]))] ++ (W_X1 cI q5 n1_0 n1_1 n1_2 n1_3 u1_0 u1_1 u1_2 u1_3) ++ (W_X2 cI q16 n2_0 n2_1 n2_2 n2_3 n2_4 0 u2_0 u2_1 u2_2 u2_3 u2_4) ++ [(q27, .inr (3, [.null, .null, .int 0]))]) := hD
  refine lv_dup hx hb dX4_init_30 rfl ?_
  have hq3 := hp.1
  replace hp := hp.2
  refine k_callv (S := (AA × AA) × (Nat × Nat)) (wc := [(q27, .inr (3, [.null, .null, .int 0]))]) (wr := ([(x0, .inr (4, [.ref q5, .ref q16, .null, .int 0, .int 0]))] ++ (W_X1 cI q5 n1_0 n1_1 n1_2 n1_3 u1_0 u1_1 u1_2 u1_3) ++ (W_X2 cI q16 n2_0 n2_1 n2_2 n2_3 n2_4 0 u2_0 u2_1 u2_2 u2_3 u2_4))) (w1 := fun u => (W_X3 cI q27 u.2.1 u.2.2 0 u.1.1 u.1.2)) (fun u => ([(x0, .inr (4, [.ref q5, .ref q16, .null, .int 0, .int 0]))] ++ (W_X1 cI q5 n1_0 n1_1 n1_2 n1_3 u1_0 u1_1 u1_2 u1_3) ++ (W_X2 cI q16 n2_0 n2_1 n2_2 n2_3 n2_4 0 u2_0 u2_1 u2_2 u2_3 u2_4) ++ (W_X3 cI q27 u.2.1 u.2.2 0 u.1.1 u.1.2))) hP hK hD hN hS hA [12] [0, 1, 2, 3, 4, 5, 6, 7, 8, 9, 10, 11] rfl rfl (by decide) (by decide) (by decide) [0, 1, 2, 3, 4, 5, 6, 7, 8, 9, 10, 11, 12, 13, 14] (by decide) (fun _ => rfl) (fun hg => va_runI (As := []) (rest := [.ref q27, .ref x0]) ⟨hx, hb, hml, hown, hts⟩ (c_X3_init l D cI q27 _ hq3) (cwI 0 hts gX4_init_X3_init rfl rfl rfl (hts (.initialized RX3) (by decide +kernel)) (hts (.methodLink RX4 25 yX3_init) (by decide +kernel)) (hts (.instanceMethod yX3_init) (by decide +kernel)) rfl (by decide +kernel) ⟨Nat.le_of_ble_eq_true rfl, Nat.le_of_ble_eq_true rfl⟩) ⟨PW.blind, fun U hU hW => ⟨rfl, hg U hU hW⟩⟩ rfl rfl hl.1 rfl (lv_room (Nat.le_of_ble_eq_true rfl)) dX4_init_31 ⟨Nat.le_of_ble_eq_true rfl, Nat.le_of_ble_eq_true rfl⟩) (fun u H locs hw hP hD hS => ?_)
  obtain ⟨⟨u3_0, u3_1⟩, ⟨n3_0, n3_1⟩⟩ := u
  try dsimp only at hw
  rw [hw] at he
  try dsimp only at he
  replace hp := hp u3_0 u3_1 hw
  have hP : va_P D vwCl ([(x0, .inr (4, [.ref q5, .ref q16, .null, .int 0, .int 0]))] ++ (W_X1 cI q5 n1_0 n1_1 n1_2 n1_3 u1_0 u1_1 u1_2 u1_3) ++ (W_X2 cI q16 n2_0 n2_1 n2_2 n2_3 n2_4 0 u2_0 u2_1 u2_2 u2_3 u2_4) ++ (W_X3 cI q27 n3_0 n3_1 0 u3_0 u3_1)) H := hP
  have hD : va_D A ([(x0, .inr (4, [.ref q5, .ref q16, .null, .int 0, .int 0]))] ++ (W_X1 cI q5 n1_0 n1_1 n1_2 n1_3 u1_0 u1_1 u1_2 u1_3) ++ (W_X2 cI q16 n2_0 n2_1 n2_2 n2_3 n2_4 0 u2_0 u2_1 u2_2 u2_3 u2_4) ++ (W_X3 cI q27 n3_0 n3_1 0 u3_0 u3_1)) := hD
  refine va_putF (D := D) (ci := 4) (v := .ref q27) (ty := (.object "Alarmgrove$Tickets")) (C := RX4) (T := TX4) (N := 5) hx hb hts (by decide +kernel) tyX4 tyX4_ok nmX4 hown hK hP hD hS 0 rfl rfl 2 (by decide) (hts (.fieldLink RX4 26 "Alarmgrove" "tickets" "LAlarmgrove$Tickets;") (by decide +kernel)) (fun _ h9 => h9) rfl hin rfl (by decide +kernel) rfl rfl (Nat.le_of_ble_eq_true rfl) dX4_init_34 (fun H locs hP hD hS => ?_)
  have hP : va_P D vwCl (W_X4 cI x0 q5 n1_0 n1_1 n1_2 n1_3 q16 n2_0 n2_1 n2_2 n2_3 n2_4 q27 n3_0 n3_1 0 0 u1_0 u1_1 u1_2 u1_3 0 u2_0 u2_1 u2_2 u2_3 u2_4 0 u3_0 u3_1) H := hP
  have hD : va_D A (W_X4 cI x0 q5 n1_0 n1_1 n1_2 n1_3 q16 n2_0 n2_1 n2_2 n2_3 n2_4 q27 n3_0 n3_1 0 0 u1_0 u1_1 u1_2 u1_3 0 u2_0 u2_1 u2_2 u2_3 u2_4 0 u3_0 u3_1) := hD
  refine lv_aload_n hx hb dX4_init_37 rfl (lv_at hl 0 rfl) ?_
  refine lv_iconst (v := 0) hx hb dX4_init_38 (by decide) ?_
  refine va_put (D := D) (ci := 4) (v := .int 0) (ty := .int) (C := RX4) (T := TX4) (N := 5) hx hb hts (by decide +kernel) tyX4 tyX4_ok nmX4 hown hK hP hD hS 0 rfl rfl 3 (by decide) (hts (.fieldLink RX4 30 "Alarmgrove" "raised" "I") (by decide +kernel)) (fun _ h9 => h9) rfl (by decide +kernel) rfl rfl (Nat.le_of_ble_eq_true rfl) dX4_init_39 (fun H locs hP hD hS => ?_)
  have hP : va_P D vwCl (W_X4 cI x0 q5 n1_0 n1_1 n1_2 n1_3 q16 n2_0 n2_1 n2_2 n2_3 n2_4 q27 n3_0 n3_1 0 0 u1_0 u1_1 u1_2 u1_3 0 u2_0 u2_1 u2_2 u2_3 u2_4 0 u3_0 u3_1) H := hP
  have hD : va_D A (W_X4 cI x0 q5 n1_0 n1_1 n1_2 n1_3 q16 n2_0 n2_1 n2_2 n2_3 n2_4 q27 n3_0 n3_1 0 0 u1_0 u1_1 u1_2 u1_3 0 u2_0 u2_1 u2_2 u2_3 u2_4 0 u3_0 u3_1) := hD
  refine lv_aload_n hx hb dX4_init_42 rfl (lv_at hl 0 rfl) ?_
  refine lv_iconst (v := 0) hx hb dX4_init_43 (by decide) ?_
  refine va_put (D := D) (ci := 4) (v := .int 0) (ty := .int) (C := RX4) (T := TX4) (N := 5) hx hb hts (by decide +kernel) tyX4 tyX4_ok nmX4 hown hK hP hD hS 0 rfl rfl 4 (by decide) (hts (.fieldLink RX4 34 "Alarmgrove" "time" "I") (by decide +kernel)) (fun _ h9 => h9) rfl (by decide +kernel) rfl rfl (Nat.le_of_ble_eq_true rfl) dX4_init_44 (fun H locs hP hD hS => ?_)
  have hP : va_P D vwCl (W_X4 cI x0 q5 n1_0 n1_1 n1_2 n1_3 q16 n2_0 n2_1 n2_2 n2_3 n2_4 q27 n3_0 n3_1 0 0 u1_0 u1_1 u1_2 u1_3 0 u2_0 u2_1 u2_2 u2_3 u2_4 0 u3_0 u3_1) H := hP
  have hD : va_D A (W_X4 cI x0 q5 n1_0 n1_1 n1_2 n1_3 q16 n2_0 n2_1 n2_2 n2_3 n2_4 q27 n3_0 n3_1 0 0 u1_0 u1_1 u1_2 u1_3 0 u2_0 u2_1 u2_2 u2_3 u2_4 0 u3_0 u3_1) := hD
  exact W.vret hx hb hr (fun t ht hW => ⟨⟨((u1_0, u1_1, u1_2, u1_3, 0, u2_0, u2_1, u2_2, u2_3, u2_4, 0, u3_0, u3_1), (q5, n1_0, n1_1, n1_2, n1_3, q16, n2_0, n2_1, n2_2, n2_3, n2_4, q27, n3_0, n3_1)), rfl, he, by rw [ht]; exact hP, va_K.moved hW.alike hK, hD⟩, hS.F ht⟩) hS.2.2 dX4_init_47
abbrev rm_X4_checkNode : Room := { frames := 6, cells := 1, slots := 6, locals := 82 }
abbrev Q_X4_checkNode (D : va_G) (cI : ClassId) (a0 : Int32) (A : Nat → Prop) : Array Value → State → Outcome → State → Prop := va_Qv (S := Unit) (fun u => f_X4_checkNode a0 = .inr ()) (fun u t => QW D [(cI, .int)] A ([] : va_W) t) A
abbrev X_X4_checkNode (D : va_G) (cI : ClassId) (a0 : Int32) (A : Nat → Prop) : String → State → State → Prop := vx_X (fun _ : Unit => True) (fun E _ t => (f_X4_checkNode a0 = .inl E ∧ (E = eIO)) ∧ QW D [(cI, .int)] A ([] : va_W) t) A
set_option maxHeartbeats 4000000 in
set_option maxRecDepth 100000 in
theorem c_X4_checkNode (l : Launch)  (D : va_G) (cI : ClassId) (sz : Nat) (a0 : Int32) (hst : l.stackTraces = false) : vx_Met l yX4_checkNode wsX4_checkNode rm_X4_checkNode (va_Pc [.int a0] (PX D [(cI, .int)] sz ([] : va_W))) (Q_X4_checkNode D cI a0 (va_A ([] : va_W) sz)) (X_X4_checkNode D cI a0 (va_A ([] : va_W) sz)) 1 6 (va_A ([] : va_W) sz) := by
  refine vx_ofW (cc := cX4_checkNode) (maxL := 1) (ret := none) (by decide) rfl ?_
  intro p e s m args below meth c s₁ B hml ht hv
  obtain ⟨rfl, ⟨hsz, hP, hK, hD0, hN⟩, hXB⟩ := hv
  have hx := B.exec
  have hb := B.bytes
  have hr := B.returns
  have hts := atoms_spec (ws := wsX4_checkNode) B.pre
  have hown : s.vm.findClass RX4 = some m.cls := findClass_of_methodNamed B.named
  have hlocks := B.notSynchronized
  subst hsz
  have hD := hD0.self (sz := s.heap.size)
  generalize hAe : va_A ([] : va_W) s.heap.size = A at hD hXB ⊢
  have hA : ∀ q : Nat, s.heap.size ≤ q → A q := fun q h => by rw [← hAe]; exact Or.inr h
  have hS : va_S A s.heap s.heap [] := va_S.rf
  have hl := lv_entry ([.int a0]) (n := 1) (Nat.le_of_ble_eq_true rfl)
  rw [lg_entry_eq]
  generalize (lg_sl ([.int a0]) ++ List.replicate (1 - (lg_sl ([.int a0])).length) Slot.unset).toArray = ls at hl ⊢
  have hl : lv_has ls 1 [(0, .int a0)] := hl
  have he := f_X4_checkNode.eq_1 a0
  refine lv_iload_n hx hb dX4_checkNode_0 rfl (lv_at hl 0 rfl) ?_
  refine lv_if_lt (tgt := 10) hx hb dX4_checkNode_1 (by decide) (fun c1 => ?_) (fun c1 => ?_)
  · replace he := he.trans (if_pos c1)
    exact k_throw (cls := eIO) (text := "no such node") hx hb hst hts hown (by decide +kernel) (by decide +kernel) (by decide +kernel) (by decide +kernel) (by decide +kernel) (by decide +kernel) (by decide +kernel) hXB hP hK hD hS (by rw [hml]; exact hl.1) dX4_checkNode_10 dX4_checkNode_13 dX4_checkNode_14 dX4_checkNode_16 dX4_checkNode_19 (fun x hx => (ht x hx).elim) (Nat.le_of_ble_eq_true rfl) (Nat.le_of_ble_eq_true rfl) (Nat.le_of_ble_eq_true rfl) (Nat.le_of_ble_eq_true rfl) hlocks (Nat.le_of_ble_eq_true rfl) (Nat.le_of_ble_eq_true rfl) ⟨he, rfl⟩
  · replace he := he.trans (if_neg c1)
    refine lv_iload_n hx hb dX4_checkNode_4 rfl (lv_at hl 0 rfl) ?_
    refine lv_bipush (v := 14) hx hb dX4_checkNode_5 (by decide) ?_
    refine lv_icmp_lt (tgt := 20) hx hb dX4_checkNode_7 (by decide) (fun c2 => ?_) (fun c2 => ?_)
    · replace he := he.trans (if_pos c2)
      refine W.widen (k := 1) (n := 6) (Nat.le_of_ble_eq_true rfl) (Nat.le_of_ble_eq_true rfl) ?_
      refine vx_ret ?_
      exact W.vret hx hb hr (fun t ht hW => ⟨⟨(), rfl, he, by rw [ht]; exact hP, va_K.moved hW.alike hK, hD⟩, hS.F ht⟩) hS.2.2 dX4_checkNode_20
    · replace he := he.trans (if_neg c2)
      exact k_throw (cls := eIO) (text := "no such node") hx hb hst hts hown (by decide +kernel) (by decide +kernel) (by decide +kernel) (by decide +kernel) (by decide +kernel) (by decide +kernel) (by decide +kernel) hXB hP hK hD hS (by rw [hml]; exact hl.1) dX4_checkNode_10 dX4_checkNode_13 dX4_checkNode_14 dX4_checkNode_16 dX4_checkNode_19 (fun x hx => (ht x hx).elim) (Nat.le_of_ble_eq_true rfl) (Nat.le_of_ble_eq_true rfl) (Nat.le_of_ble_eq_true rfl) (Nat.le_of_ble_eq_true rfl) hlocks (Nat.le_of_ble_eq_true rfl) (Nat.le_of_ble_eq_true rfl) ⟨he, rfl⟩
abbrev rm_X4_checkTicks : Room := { frames := 6, cells := 1, slots := 6, locals := 82 }
abbrev Q_X4_checkTicks (D : va_G) (cI : ClassId) (a0 a1 : Int32) (A : Nat → Prop) : Array Value → State → Outcome → State → Prop := va_Qv (S := Unit) (fun u => f_X4_checkTicks a0 a1 = .inr ()) (fun u t => QW D [(cI, .int)] A ([] : va_W) t) A
abbrev X_X4_checkTicks (D : va_G) (cI : ClassId) (a0 a1 : Int32) (A : Nat → Prop) : String → State → State → Prop := vx_X (fun _ : Unit => True) (fun E _ t => (f_X4_checkTicks a0 a1 = .inl E ∧ (E = eIA)) ∧ QW D [(cI, .int)] A ([] : va_W) t) A
set_option maxHeartbeats 4000000 in
set_option maxRecDepth 100000 in
theorem c_X4_checkTicks (l : Launch)  (D : va_G) (cI : ClassId) (sz : Nat) (a0 a1 : Int32) (hst : l.stackTraces = false) : vx_Met l yX4_checkTicks wsX4_checkTicks rm_X4_checkTicks (va_Pc [.int a0, .int a1] (PX D [(cI, .int)] sz ([] : va_W))) (Q_X4_checkTicks D cI a0 a1 (va_A ([] : va_W) sz)) (X_X4_checkTicks D cI a0 a1 (va_A ([] : va_W) sz)) 1 6 (va_A ([] : va_W) sz) := by
  refine vx_ofW (cc := cX4_checkTicks) (maxL := 2) (ret := none) (by decide) rfl ?_
  intro p e s m args below meth c s₁ B hml ht hv
  obtain ⟨rfl, ⟨hsz, hP, hK, hD0, hN⟩, hXB⟩ := hv
  have hx := B.exec
  have hb := B.bytes
  have hr := B.returns
  have hts := atoms_spec (ws := wsX4_checkTicks) B.pre
  have hown : s.vm.findClass RX4 = some m.cls := findClass_of_methodNamed B.named
  have hlocks := B.notSynchronized
  subst hsz
  have hD := hD0.self (sz := s.heap.size)
  generalize hAe : va_A ([] : va_W) s.heap.size = A at hD hXB ⊢
  have hA : ∀ q : Nat, s.heap.size ≤ q → A q := fun q h => by rw [← hAe]; exact Or.inr h
  have hS : va_S A s.heap s.heap [] := va_S.rf
  have hl := lv_entry ([.int a0, .int a1]) (n := 2) (Nat.le_of_ble_eq_true rfl)
  rw [lg_entry_eq]
  generalize (lg_sl ([.int a0, .int a1]) ++ List.replicate (2 - (lg_sl ([.int a0, .int a1])).length) Slot.unset).toArray = ls at hl ⊢
  have hl : lv_has ls 2 [(0, .int a0), (1, .int a1)] := hl
  have he := f_X4_checkTicks.eq_1 a0 a1
  refine lv_iload_n hx hb dX4_checkTicks_0 rfl (lv_at hl 0 rfl) ?_
  refine lv_iconst (v := 1) hx hb dX4_checkTicks_1 (by decide) ?_
  refine lv_icmp_lt (tgt := 10) hx hb dX4_checkTicks_2 (by decide) (fun c1 => ?_) (fun c1 => ?_)
  · replace he := he.trans (if_pos c1)
    exact k_throw (cls := eIA) (text := "ticks out of range") hx hb hst hts hown (by decide +kernel) (by decide +kernel) (by decide +kernel) (by decide +kernel) (by decide +kernel) (by decide +kernel) (by decide +kernel) hXB hP hK hD hS (by rw [hml]; exact hl.1) dX4_checkTicks_10 dX4_checkTicks_13 dX4_checkTicks_14 dX4_checkTicks_16 dX4_checkTicks_19 (fun x hx => (ht x hx).elim) (Nat.le_of_ble_eq_true rfl) (Nat.le_of_ble_eq_true rfl) (Nat.le_of_ble_eq_true rfl) (Nat.le_of_ble_eq_true rfl) hlocks (Nat.le_of_ble_eq_true rfl) (Nat.le_of_ble_eq_true rfl) ⟨he, rfl⟩
  · replace he := he.trans (if_neg c1)
    refine lv_iload_n hx hb dX4_checkTicks_5 rfl (lv_at hl 0 rfl) ?_
    refine lv_iload_n hx hb dX4_checkTicks_6 rfl (lv_at hl 1 rfl) ?_
    refine lv_icmp_le (tgt := 20) hx hb dX4_checkTicks_7 (by decide) (fun c2 => ?_) (fun c2 => ?_)
    · replace he := he.trans (if_pos c2)
      refine W.widen (k := 1) (n := 6) (Nat.le_of_ble_eq_true rfl) (Nat.le_of_ble_eq_true rfl) ?_
      refine vx_ret ?_
      exact W.vret hx hb hr (fun t ht hW => ⟨⟨(), rfl, he, by rw [ht]; exact hP, va_K.moved hW.alike hK, hD⟩, hS.F ht⟩) hS.2.2 dX4_checkTicks_20
    · replace he := he.trans (if_neg c2)
      exact k_throw (cls := eIA) (text := "ticks out of range") hx hb hst hts hown (by decide +kernel) (by decide +kernel) (by decide +kernel) (by decide +kernel) (by decide +kernel) (by decide +kernel) (by decide +kernel) hXB hP hK hD hS (by rw [hml]; exact hl.1) dX4_checkTicks_10 dX4_checkTicks_13 dX4_checkTicks_14 dX4_checkTicks_16 dX4_checkTicks_19 (fun x hx => (ht x hx).elim) (Nat.le_of_ble_eq_true rfl) (Nat.le_of_ble_eq_true rfl) (Nat.le_of_ble_eq_true rfl) (Nat.le_of_ble_eq_true rfl) hlocks (Nat.le_of_ble_eq_true rfl) (Nat.le_of_ble_eq_true rfl) ⟨he, rfl⟩
abbrev rm_X4_checkChange : Room := { frames := 6, cells := 1, slots := 6, locals := 82 }
abbrev Q_X4_checkChange (D : va_G) (cI : ClassId) (x0 g0 g1 g2 g3 g4 l0 l1 l2 l3 l4 l5 t0 t1 t2 : Nat) (xr : Int32) (xt : Int32) (gn : AA) (gu : AA) (gb : AA) (ga : AA) (lc : Int32) (lk : AA) (ln : AA) (lt : AA) (ll : AA) (lr : AA) (tw : Int32) (tn : AA) (tt : AA) (a1 : Int32) (A : Nat → Prop) : Array Value → State → Outcome → State → Prop := va_Qv (S := Unit) (fun u => f_X4_checkChange lc a1 = .inr ()) (fun u t => QW D [(cI, .int)] A (W_X4 cI x0 g0 g1 g2 g3 g4 l0 l1 l2 l3 l4 l5 t0 t1 t2 xr xt gn gu gb ga lc lk ln lt ll lr tw tn tt) t) A
abbrev X_X4_checkChange (D : va_G) (cI : ClassId) (x0 g0 g1 g2 g3 g4 l0 l1 l2 l3 l4 l5 t0 t1 t2 : Nat) (xr : Int32) (xt : Int32) (gn : AA) (gu : AA) (gb : AA) (ga : AA) (lc : Int32) (lk : AA) (ln : AA) (lt : AA) (ll : AA) (lr : AA) (tw : Int32) (tn : AA) (tt : AA) (a1 : Int32) (A : Nat → Prop) : String → State → State → Prop := vx_X (fun _ : Unit => True) (fun E _ t => (f_X4_checkChange lc a1 = .inl E ∧ (E = eIS)) ∧ QW D [(cI, .int)] A (W_X4 cI x0 g0 g1 g2 g3 g4 l0 l1 l2 l3 l4 l5 t0 t1 t2 xr xt gn gu gb ga lc lk ln lt ll lr tw tn tt) t) A
set_option maxHeartbeats 4000000 in
set_option maxRecDepth 100000 in
theorem c_X4_checkChange (l : Launch)  (D : va_G) (cI : ClassId) (x0 g0 g1 g2 g3 g4 l0 l1 l2 l3 l4 l5 t0 t1 t2 : Nat) (xr : Int32) (xt : Int32) (gn : AA) (gu : AA) (gb : AA) (ga : AA) (lc : Int32) (lk : AA) (ln : AA) (lt : AA) (ll : AA) (lr : AA) (tw : Int32) (tn : AA) (tt : AA) (sz : Nat) (a1 : Int32) (hst : l.stackTraces = false) : vx_Met l yX4_checkChange wsX4_checkChange rm_X4_checkChange (va_Pc [.ref x0, .int a1] (PX D [(cI, .int)] sz (W_X4 cI x0 g0 g1 g2 g3 g4 l0 l1 l2 l3 l4 l5 t0 t1 t2 xr xt gn gu gb ga lc lk ln lt ll lr tw tn tt))) (Q_X4_checkChange D cI x0 g0 g1 g2 g3 g4 l0 l1 l2 l3 l4 l5 t0 t1 t2 xr xt gn gu gb ga lc lk ln lt ll lr tw tn tt a1 (va_A (W_X4 cI x0 g0 g1 g2 g3 g4 l0 l1 l2 l3 l4 l5 t0 t1 t2 xr xt gn gu gb ga lc lk ln lt ll lr tw tn tt) sz)) (X_X4_checkChange D cI x0 g0 g1 g2 g3 g4 l0 l1 l2 l3 l4 l5 t0 t1 t2 xr xt gn gu gb ga lc lk ln lt ll lr tw tn tt a1 (va_A (W_X4 cI x0 g0 g1 g2 g3 g4 l0 l1 l2 l3 l4 l5 t0 t1 t2 xr xt gn gu gb ga lc lk ln lt ll lr tw tn tt) sz)) 1 6 (va_A (W_X4 cI x0 g0 g1 g2 g3 g4 l0 l1 l2 l3 l4 l5 t0 t1 t2 xr xt gn gu gb ga lc lk ln lt ll lr tw tn tt) sz) := by
  refine vx_ofW (cc := cX4_checkChange) (maxL := 2) (ret := none) (by decide) rfl ?_
  intro p e s m args below meth c s₁ B hml ht hv
  obtain ⟨rfl, ⟨hsz, hP, hK, hD0, hN⟩, hXB⟩ := hv
  have hx := B.exec
  have hb := B.bytes
  have hr := B.returns
  have hts := atoms_spec (ws := wsX4_checkChange) B.pre
  have hown : s.vm.findClass RX4 = some m.cls := findClass_of_methodNamed B.named
  have hlocks := B.notSynchronized
  subst hsz
  have hD := hD0.self (sz := s.heap.size)
  generalize hAe : va_A (W_X4 cI x0 g0 g1 g2 g3 g4 l0 l1 l2 l3 l4 l5 t0 t1 t2 xr xt gn gu gb ga lc lk ln lt ll lr tw tn tt) s.heap.size = A at hD hXB ⊢
  have hA : ∀ q : Nat, s.heap.size ≤ q → A q := fun q h => by rw [← hAe]; exact Or.inr h
  have hS : va_S A s.heap s.heap [] := va_S.rf
  have hl := lv_entry ([.ref x0, .int a1]) (n := 2) (Nat.le_of_ble_eq_true rfl)
  rw [lg_entry_eq]
  generalize (lg_sl ([.ref x0, .int a1]) ++ List.replicate (2 - (lg_sl ([.ref x0, .int a1])).length) Slot.unset).toArray = ls at hl ⊢
  have hl : lv_has ls 2 [(0, .ref x0), (1, .int a1)] := hl
  have he := f_X4_checkChange.eq_1 lc a1
  refine lv_iload_n hx hb dX4_checkChange_0 rfl (lv_at hl 1 rfl) ?_
  refine lv_if_eq (tgt := 14) hx hb dX4_checkChange_1 (by decide) (fun c1 => ?_) (fun c1 => ?_)
  · replace he := he.trans (if_pos c1)
    exact k_throw (cls := eIS) (text := "the alarm can\'t change") hx hb hst hts hown (by decide +kernel) (by decide +kernel) (by decide +kernel) (by decide +kernel) (by decide +kernel) (by decide +kernel) (by decide +kernel) hXB hP hK hD hS (by rw [hml]; exact hl.1) dX4_checkChange_14 dX4_checkChange_17 dX4_checkChange_18 dX4_checkChange_20 dX4_checkChange_23 (fun x hx => (ht x hx).elim) (Nat.le_of_ble_eq_true rfl) (Nat.le_of_ble_eq_true rfl) (Nat.le_of_ble_eq_true rfl) (Nat.le_of_ble_eq_true rfl) hlocks (Nat.le_of_ble_eq_true rfl) (Nat.le_of_ble_eq_true rfl) ⟨he, rfl⟩
  · replace he := he.trans (if_neg c1)
    refine lv_aload_n hx hb dX4_checkChange_4 rfl (lv_at hl 0 rfl) ?_
    refine va_get (D := D) (ci := 4) (v := .ref l0) (C := RX4) (T := TX4) (N := 5) hx hb hts (by decide +kernel) hown hK hP 0 rfl rfl 1 (by decide) (hts (.fieldLink RX4 19 "Alarmgrove" "log" "LAlarmgrove$Log;") (by decide +kernel)) (fun _ h9 => h9) rfl dX4_checkChange_5 ?_
    refine k_calli (S := Unit) (wc := (W_X2 cI l0 l1 l2 l3 l4 l5 lc lk ln lt ll lr)) (wr := ([(x0, .inr (4, [.ref g0, .ref l0, .ref t0, .int xr, .int xt]))] ++ (W_X1 cI g0 g1 g2 g3 g4 gn gu gb ga) ++ (W_X3 cI t0 t1 t2 tw tn tt))) (w1 := fun u => (W_X2 cI l0 l1 l2 l3 l4 l5 lc lk ln lt ll lr)) (fun u => (W_X4 cI x0 g0 g1 g2 g3 g4 l0 l1 l2 l3 l4 l5 t0 t1 t2 xr xt gn gu gb ga lc lk ln lt ll lr tw tn tt)) hP hK hD hN hS hA [6, 7, 8, 9, 10, 11] [0, 1, 2, 3, 4, 5, 12, 13, 14] rfl rfl (by decide) (by decide) (by decide) [0, 1, 2, 3, 4, 5, 9, 10, 11, 12, 13, 14, 6, 7, 8] (by decide) (fun _ => rfl) (fun hg => va_runV (As := []) (rest := []) ⟨hx, hb, hml, hown, hts⟩ (c_X2_isFull l D cI l0 l1 l2 l3 l4 l5 lc lk ln lt ll lr _ ) (cwV 0 hts gX4_checkChange_X2_isFull rfl rfl rfl (by decide +kernel) ⟨Nat.le_of_ble_eq_true rfl, Nat.le_of_ble_eq_true rfl⟩) ⟨PW.blind, va_recv hK hP (ci := 2) (q0 := 6) rfl rfl, fun U hU hW => ⟨rfl, hg U hU hW⟩⟩ rfl rfl hl.1 rfl (lv_room (Nat.le_of_ble_eq_true rfl)) dX4_checkChange_8 ⟨Nat.le_of_ble_eq_true rfl, Nat.le_of_ble_eq_true rfl⟩) (fun r2 u H locs hw hP hD hS => ?_)
    obtain ⟨hw, hb2⟩ := hw
    subst hw
    refine lv_if_eq (tgt := 24) hx hb dX4_checkChange_11 (by decide) (fun c3 => ?_) (fun c3 => ?_)
    · replace he := he.trans (if_pos c3)
      refine W.widen (k := 1) (n := 6) (Nat.le_of_ble_eq_true rfl) (Nat.le_of_ble_eq_true rfl) ?_
      refine vx_ret ?_
      exact W.vret hx hb hr (fun t ht hW => ⟨⟨(), rfl, he, by rw [ht]; exact hP, va_K.moved hW.alike hK, hD⟩, hS.F ht⟩) hS.2.2 dX4_checkChange_24
    · replace he := he.trans (if_neg c3)
      exact k_throw (cls := eIS) (text := "the alarm can\'t change") hx hb hst hts hown (by decide +kernel) (by decide +kernel) (by decide +kernel) (by decide +kernel) (by decide +kernel) (by decide +kernel) (by decide +kernel) hXB hP hK hD hS (by rw [hml]; exact hl.1) dX4_checkChange_14 dX4_checkChange_17 dX4_checkChange_18 dX4_checkChange_20 dX4_checkChange_23 (fun x hx => (ht x hx).elim) (Nat.le_of_ble_eq_true rfl) (Nat.le_of_ble_eq_true rfl) (Nat.le_of_ble_eq_true rfl) (Nat.le_of_ble_eq_true rfl) hlocks (Nat.le_of_ble_eq_true rfl) (Nat.le_of_ble_eq_true rfl) ⟨he, rfl⟩
abbrev rm_X4_nodeThere : Room := { frames := 6, cells := 1, slots := 6, locals := 82 }
abbrev Q_X4_nodeThere (D : va_G) (cI : ClassId) (a0 a1 : Int32) (A : Nat → Prop) : Array Value → State → Outcome → State → Prop := va_Qi (S := Unit) (fun r u => f_X4_nodeThere a0 a1 = .inr r) (fun u t => QW D [(cI, .int)] A ([] : va_W) t) A
abbrev X_X4_nodeThere (D : va_G) (cI : ClassId) (a0 a1 : Int32) (A : Nat → Prop) : String → State → State → Prop := vx_X (fun _ : Unit => True) (fun E _ t => (f_X4_nodeThere a0 a1 = .inl E ∧ (E = eIO)) ∧ QW D [(cI, .int)] A ([] : va_W) t) A
set_option maxHeartbeats 4000000 in
set_option maxRecDepth 100000 in
theorem c_X4_nodeThere (l : Launch)  (D : va_G) (cI : ClassId) (sz : Nat) (a0 a1 : Int32) (hp : p_X4_nodeThere a0 a1) (hst : l.stackTraces = false) : vx_Met l yX4_nodeThere wsX4_nodeThere rm_X4_nodeThere (va_Pc [.int a0, .int a1] (PX D [(cI, .int)] sz ([] : va_W))) (Q_X4_nodeThere D cI a0 a1 (va_A ([] : va_W) sz)) (X_X4_nodeThere D cI a0 a1 (va_A ([] : va_W) sz)) 1 6 (va_A ([] : va_W) sz) := by
  refine vx_ofW (cc := cX4_nodeThere) (maxL := 3) (ret := (some .int)) (by decide) rfl ?_
  intro p e s m args below meth c s₁ B hml ht hv
  obtain ⟨rfl, ⟨hsz, hP, hK, hD0, hN⟩, hXB⟩ := hv
  have hx := B.exec
  have hb := B.bytes
  have hr := B.returns
  have hts := atoms_spec (ws := wsX4_nodeThere) B.pre
  have hown : s.vm.findClass RX4 = some m.cls := findClass_of_methodNamed B.named
  have hlocks := B.notSynchronized
  subst hsz
  have hD := hD0.self (sz := s.heap.size)
  generalize hAe : va_A ([] : va_W) s.heap.size = A at hD hXB ⊢
  have hA : ∀ q : Nat, s.heap.size ≤ q → A q := fun q h => by rw [← hAe]; exact Or.inr h
  have hS : va_S A s.heap s.heap [] := va_S.rf
  have hl := lv_entry ([.int a0, .int a1]) (n := 3) (Nat.le_of_ble_eq_true rfl)
  rw [lg_entry_eq]
  generalize (lg_sl ([.int a0, .int a1]) ++ List.replicate (3 - (lg_sl ([.int a0, .int a1])).length) Slot.unset).toArray = ls at hl ⊢
  have hl : lv_has ls 3 [(0, .int a0), (1, .int a1)] := hl
  have he := f_X4_nodeThere.eq_1 a0 a1
  replace hp := Eq.mp (p_X4_nodeThere.eq_1 ..) hp
  refine lv_iload_n hx hb dX4_nodeThere_0 rfl (lv_at hl 0 rfl) ?_
  refine lv_iload_n hx hb dX4_nodeThere_1 rfl (lv_at hl 1 rfl) ?_
  have hq1 := hp.1
  replace hp := hp.2
  refine k_calli (S := Unit) (wc := ([] : va_W)) (wr := ([] : va_W)) (w1 := fun u => ([] : va_W)) (fun u => ([] : va_W)) hP hK hD hN hS hA [] [] rfl rfl (by decide) (by decide) (by decide) [] (by decide) (fun _ => rfl) (fun hg => va_runS (As := [.int a0, .int a1]) (rest := []) ⟨hx, hb, hml, hown, hts⟩ (c_X4_nodeAtPlace l D cI _ a0 a1 hq1) (va_cwS 2 hts gX4_nodeThere_X4_nodeAtPlace rfl rfl rfl (by decide +kernel) ⟨Nat.le_of_ble_eq_true rfl, Nat.le_of_ble_eq_true rfl⟩) ⟨PW.blind, fun U hU hW => ⟨rfl, hg U hU hW⟩⟩ rfl rfl hl.1 rfl (lv_room (Nat.le_of_ble_eq_true rfl)) dX4_nodeThere_2 ⟨Nat.le_of_ble_eq_true rfl, Nat.le_of_ble_eq_true rfl⟩) (fun r1 u H locs hw hP hD hS => ?_)
  subst hw
  refine lv_istore_n (lv' := [(2, .int (f_X4_nodeAtPlace a0 a1)), (0, .int a0), (1, .int a1)]) hx hb dX4_nodeThere_5 rfl hl (by decide) rfl (fun ls hl => ?_)
  refine lv_iload_n hx hb dX4_nodeThere_6 rfl (lv_at hl 0 rfl) ?_
  refine lv_iconst (v := (-1)) hx hb dX4_nodeThere_7 (by decide) ?_
  refine lv_icmp_ne (tgt := 21) hx hb dX4_nodeThere_8 (by decide) (fun c2 => ?_) (fun c2 => ?_)
  · replace hp := hp.2 c2
    replace he := he.trans (if_neg c2)
    refine lv_iload_n hx hb dX4_nodeThere_21 rfl (lv_at hl 0 rfl) ?_
    refine W.widen (k := 1) (n := 6) (Nat.le_of_ble_eq_true rfl) (Nat.le_of_ble_eq_true rfl) ?_
    refine vx_ret ?_
    exact W.iret (v := (f_X4_nodeAtPlace a0 a1)) hx hb hr (fun t ht hW => ⟨⟨(f_X4_nodeAtPlace a0 a1), (), rfl, he, by rw [ht]; exact hP, va_K.moved hW.alike hK, hD⟩, hS.F ht⟩) hS.2.2 dX4_nodeThere_22
  · replace hp := hp.1 c2
    replace he := he.trans (if_pos c2)
    exact k_throw (cls := eIO) (text := "no such place") hx hb hst hts hown (by decide +kernel) (by decide +kernel) (by decide +kernel) (by decide +kernel) (by decide +kernel) (by decide +kernel) (by decide +kernel) hXB hP hK hD hS (by rw [hml]; exact hl.1) dX4_nodeThere_11 dX4_nodeThere_14 dX4_nodeThere_15 dX4_nodeThere_17 dX4_nodeThere_20 (fun x hx => (ht x hx).elim) (Nat.le_of_ble_eq_true rfl) (Nat.le_of_ble_eq_true rfl) (Nat.le_of_ble_eq_true rfl) (Nat.le_of_ble_eq_true rfl) hlocks (Nat.le_of_ble_eq_true rfl) (Nat.le_of_ble_eq_true rfl) ⟨he, rfl⟩
abbrev rm_X4_diagnoser : Room := { frames := 3, cells := 1, slots := 3, locals := 67 }
abbrev Q_X4_diagnoser (D : va_G) (cI : ClassId) (x0 g0 g1 g2 g3 g4 l0 l1 l2 l3 l4 l5 t0 t1 t2 : Nat) (xr : Int32) (xt : Int32) (gn : AA) (gu : AA) (gb : AA) (ga : AA) (lc : Int32) (lk : AA) (ln : AA) (lt : AA) (ll : AA) (lr : AA) (tw : Int32) (tn : AA) (tt : AA) (A : Nat → Prop) : Array Value → State → Outcome → State → Prop := va_Qr (S := (Int32 × Int32) × (Nat)) (fun u => f_X4_diagnoser xr gu = u.1) (fun u x t => x = u.2 ∧ QW D [(cI, .int)] A ((W_X4 cI x0 g0 g1 g2 g3 g4 l0 l1 l2 l3 l4 l5 t0 t1 t2 xr xt gn gu gb ga lc lk ln lt ll lr tw tn tt) ++ [(u.2, .inr (0, [.ref g0, .int u.1.1, .int u.1.2]))]) t) A
set_option maxHeartbeats 4000000 in
set_option maxRecDepth 100000 in
theorem c_X4_diagnoser (l : Launch)  (D : va_G) (cI : ClassId) (x0 g0 g1 g2 g3 g4 l0 l1 l2 l3 l4 l5 t0 t1 t2 : Nat) (xr : Int32) (xt : Int32) (gn : AA) (gu : AA) (gb : AA) (ga : AA) (lc : Int32) (lk : AA) (ln : AA) (lt : AA) (ll : AA) (lr : AA) (tw : Int32) (tn : AA) (tt : AA) (sz : Nat) (hp : p_X4_diagnoser xr gu) : Met l yX4_diagnoser wsX4_diagnoser rm_X4_diagnoser (va_Pc [.ref x0] (PW D [(cI, .int)] sz (W_X4 cI x0 g0 g1 g2 g3 g4 l0 l1 l2 l3 l4 l5 t0 t1 t2 xr xt gn gu gb ga lc lk ln lt ll lr tw tn tt))) (Q_X4_diagnoser D cI x0 g0 g1 g2 g3 g4 l0 l1 l2 l3 l4 l5 t0 t1 t2 xr xt gn gu gb ga lc lk ln lt ll lr tw tn tt (va_A (W_X4 cI x0 g0 g1 g2 g3 g4 l0 l1 l2 l3 l4 l5 t0 t1 t2 xr xt gn gu gb ga lc lk ln lt ll lr tw tn tt) sz)) 1 3 (va_A (W_X4 cI x0 g0 g1 g2 g3 g4 l0 l1 l2 l3 l4 l5 t0 t1 t2 xr xt gn gu gb ga lc lk ln lt ll lr tw tn tt) sz) := by
  refine Met.ofW (cc := cX4_diagnoser) (maxL := 1) (ret := (some (.object "Alarmgrove$Diagnoser"))) (by decide) rfl ?_
  intro p e s m args below meth c s₁ B hml hv
  obtain ⟨rfl, hsz, hP, hK, hD0, hN⟩ := hv
  have hx := B.exec
  have hb := B.bytes
  have hr := B.returns
  have hts := atoms_spec (ws := wsX4_diagnoser) B.pre
  have hown : s.vm.findClass RX4 = some m.cls := findClass_of_methodNamed B.named
  have hlocks := B.notSynchronized
  subst hsz
  have hD := hD0.self (sz := s.heap.size)
  generalize hAe : va_A (W_X4 cI x0 g0 g1 g2 g3 g4 l0 l1 l2 l3 l4 l5 t0 t1 t2 xr xt gn gu gb ga lc lk ln lt ll lr tw tn tt) s.heap.size = A at hD ⊢
  have hA : ∀ q : Nat, s.heap.size ≤ q → A q := fun q h => by rw [← hAe]; exact Or.inr h
  have hS : va_S A s.heap s.heap [] := va_S.rf
  have hl := lv_entry ([.ref x0]) (n := 1) (Nat.le_of_ble_eq_true rfl)
  rw [lg_entry_eq]
  generalize (lg_sl ([.ref x0]) ++ List.replicate (1 - (lg_sl ([.ref x0])).length) Slot.unset).toArray = ls at hl ⊢
  have hl : lv_has ls 1 [(0, .ref x0)] := hl
  have he := f_X4_diagnoser.eq_1 xr gu
  replace hp := Eq.mp (p_X4_diagnoser.eq_1 ..) hp
  refine va_new (ci := 0) (fs := [.null, .int 0, .int 0]) (C := RX0) (T := TX0) (N := 3) hx hb hts (by decide +kernel) tyX0 tyX0_ok hown (hts (.classLink RX4 142 RX0) (by decide +kernel)) (hts (.instantiable RX0 3) (by decide +kernel)) (hts (.initialized RX0) (by decide +kernel)) hK hP hD hS hA rfl (fun j hj => by rcases (show j = 0 ∨ j = 1 ∨ j = 2 by omega) with rfl | rfl | rfl <;> rfl) (Nat.le_of_ble_eq_true rfl) (Nat.le_of_ble_eq_true rfl) dX4_diagnoser_0 (fun q0 H hP hD hS => ?_)
  have hP : va_P D vwCl ((W_X4 cI x0 g0 g1 g2 g3 g4 l0 l1 l2 l3 l4 l5 t0 t1 t2 xr xt gn gu gb ga lc lk ln lt ll lr tw tn tt) ++ [(q0, .inr (0, [.null, .int 0, .int 0]))]) H := hP
  have hD : va_D A ((W_X4 cI x0 g0 g1 g2 g3 g4 l0 l1 l2 l3 l4 l5 t0 t1 t2 xr xt gn gu gb ga lc lk ln lt ll lr tw tn tt) ++ [(q0, .inr (0, [.null, .int 0, .int 0]))]) := hD
  refine lv_dup hx hb dX4_diagnoser_3 rfl ?_
  refine lv_aload_n hx hb dX4_diagnoser_4 rfl (lv_at hl 0 rfl) ?_
  refine va_get (D := D) (ci := 4) (v := .ref g0) (C := RX4) (T := TX4) (N := 5) hx hb hts (by decide +kernel) hown hK hP 0 rfl rfl 0 (by decide) (hts (.fieldLink RX4 10 "Alarmgrove" "graph" "LAlarmgrove$Graph;") (by decide +kernel)) (fun _ h9 => h9) rfl dX4_diagnoser_5 ?_
  refine lv_aload_n hx hb dX4_diagnoser_8 rfl (lv_at hl 0 rfl) ?_
  refine va_get (D := D) (ci := 4) (v := .int xr) (C := RX4) (T := TX4) (N := 5) hx hb hts (by decide +kernel) hown hK hP 0 rfl rfl 3 (by decide) (hts (.fieldLink RX4 30 "Alarmgrove" "raised" "I") (by decide +kernel)) (fun _ h9 => h9) rfl dX4_diagnoser_9 ?_
  have hq1 := hp.1
  replace hp := hp.2
  refine k_callv (S := Int32 × Int32) (wc := ([(q0, .inr (0, [.null, .int 0, .int 0]))] ++ (W_X1 cI g0 g1 g2 g3 g4 gn gu gb ga))) (wr := ([(x0, .inr (4, [.ref g0, .ref l0, .ref t0, .int xr, .int xt]))] ++ (W_X2 cI l0 l1 l2 l3 l4 l5 lc lk ln lt ll lr) ++ (W_X3 cI t0 t1 t2 tw tn tt))) (w1 := fun u => (W_X0 cI q0 g0 g1 g2 g3 g4 u.1 u.2 gn gu gb ga)) (fun u => ((W_X4 cI x0 g0 g1 g2 g3 g4 l0 l1 l2 l3 l4 l5 t0 t1 t2 xr xt gn gu gb ga lc lk ln lt ll lr tw tn tt) ++ [(q0, .inr (0, [.ref g0, .int u.1, .int u.2]))])) hP hK hD hN hS hA [15, 1, 2, 3, 4, 5] [0, 6, 7, 8, 9, 10, 11, 12, 13, 14] rfl rfl (by decide) (by decide) (by decide) [0, 11, 12, 13, 14, 15, 1, 2, 3, 4, 5, 6, 7, 8, 9, 10] (by decide) (fun _ => rfl) (fun hg => va_runI (As := [.ref g0, .int xr]) (rest := [.ref q0]) ⟨hx, hb, hml, hown, hts⟩ (c_X0_init l D cI q0 g0 g1 g2 g3 g4 gn gu gb ga _ xr hq1) (cwI 2 hts gX4_diagnoser_X0_init rfl rfl rfl (hts (.initialized RX0) (by decide +kernel)) (hts (.methodLink RX4 177 yX0_init) (by decide +kernel)) (hts (.instanceMethod yX0_init) (by decide +kernel)) rfl (by decide +kernel) ⟨Nat.le_of_ble_eq_true rfl, Nat.le_of_ble_eq_true rfl⟩) ⟨PW.blind, fun U hU hW => ⟨rfl, hg U hU hW⟩⟩ rfl rfl hl.1 rfl (lv_room (Nat.le_of_ble_eq_true rfl)) dX4_diagnoser_12 ⟨Nat.le_of_ble_eq_true rfl, Nat.le_of_ble_eq_true rfl⟩) (fun u H locs hw hP hD hS => ?_)
  obtain ⟨u1_0, u1_1⟩ := u
  rw [hw] at he
  try dsimp only at he
  replace hp := hp u1_0 u1_1 hw
  have hP : va_P D vwCl ((W_X4 cI x0 g0 g1 g2 g3 g4 l0 l1 l2 l3 l4 l5 t0 t1 t2 xr xt gn gu gb ga lc lk ln lt ll lr tw tn tt) ++ [(q0, .inr (0, [.ref g0, .int u1_0, .int u1_1]))]) H := hP
  have hD : va_D A ((W_X4 cI x0 g0 g1 g2 g3 g4 l0 l1 l2 l3 l4 l5 t0 t1 t2 xr xt gn gu gb ga lc lk ln lt ll lr tw tn tt) ++ [(q0, .inr (0, [.ref g0, .int u1_0, .int u1_1]))]) := hD
  exact W.aret (v := .ref q0) hx hb hr (Or.inl ⟨_, rfl⟩) (Or.inr ⟨_, rfl⟩) (fun t ht hW => ⟨⟨((u1_0, u1_1), q0), q0, rfl, he, rfl, by rw [ht]; exact hP, va_K.moved hW.alike hK, hD⟩, hS.F ht⟩) hS.2.2 dX4_diagnoser_15
abbrev rm_X4_need : Room := { frames := 7, cells := 3, slots := 18, locals := 131 }
abbrev Q_X4_need (D : va_G) (cI : ClassId) (x0 g0 g1 g2 g3 g4 l0 l1 l2 l3 l4 l5 t0 t1 t2 : Nat) (xr : Int32) (xt : Int32) (gn : AA) (gu : AA) (gb : AA) (ga : AA) (lc : Int32) (lk : AA) (ln : AA) (lt : AA) (ll : AA) (lr : AA) (tw : Int32) (tn : AA) (tt : AA) (a1 a2 : Int32) (A : Nat → Prop) : Array Value → State → Outcome → State → Prop := va_Qi (S := AA × AA × AA × AA) (fun r u => f_X4_need gn gu gb ga a1 a2 = .inr (r, u) ∧ (r = 0 ∨ r = 1)) (fun u t => QW D [(cI, .int)] A (W_X4 cI x0 g0 g1 g2 g3 g4 l0 l1 l2 l3 l4 l5 t0 t1 t2 xr xt u.1 u.2.1 u.2.2.1 u.2.2.2 lc lk ln lt ll lr tw tn tt) t) A
abbrev X_X4_need (D : va_G) (cI : ClassId) (x0 g0 g1 g2 g3 g4 l0 l1 l2 l3 l4 l5 t0 t1 t2 : Nat) (xr : Int32) (xt : Int32) (gn : AA) (gu : AA) (gb : AA) (ga : AA) (lc : Int32) (lk : AA) (ln : AA) (lt : AA) (ll : AA) (lr : AA) (tw : Int32) (tn : AA) (tt : AA) (a1 a2 : Int32) (A : Nat → Prop) : String → State → State → Prop := vx_X (fun _ : Unit => True) (fun E _ t => (f_X4_need gn gu gb ga a1 a2 = .inl E ∧ (E = eIO ∨ E = eIA)) ∧ QW D [(cI, .int)] A (W_X4 cI x0 g0 g1 g2 g3 g4 l0 l1 l2 l3 l4 l5 t0 t1 t2 xr xt gn gu gb ga lc lk ln lt ll lr tw tn tt) t) A
set_option maxHeartbeats 4000000 in
set_option maxRecDepth 100000 in
theorem c_X4_need (l : Launch)  (D : va_G) (cI : ClassId) (x0 g0 g1 g2 g3 g4 l0 l1 l2 l3 l4 l5 t0 t1 t2 : Nat) (xr : Int32) (xt : Int32) (gn : AA) (gu : AA) (gb : AA) (ga : AA) (lc : Int32) (lk : AA) (ln : AA) (lt : AA) (ll : AA) (lr : AA) (tw : Int32) (tn : AA) (tt : AA) (sz : Nat) (a1 a2 : Int32) (hp : p_X4_need gn gu gb ga a1 a2) (hst : l.stackTraces = false) : vx_Met l yX4_need wsX4_need rm_X4_need (va_Pc [.ref x0, .int a1, .int a2] (PX D [(cI, .int)] sz (W_X4 cI x0 g0 g1 g2 g3 g4 l0 l1 l2 l3 l4 l5 t0 t1 t2 xr xt gn gu gb ga lc lk ln lt ll lr tw tn tt))) (Q_X4_need D cI x0 g0 g1 g2 g3 g4 l0 l1 l2 l3 l4 l5 t0 t1 t2 xr xt gn gu gb ga lc lk ln lt ll lr tw tn tt a1 a2 (va_A (W_X4 cI x0 g0 g1 g2 g3 g4 l0 l1 l2 l3 l4 l5 t0 t1 t2 xr xt gn gu gb ga lc lk ln lt ll lr tw tn tt) sz)) (X_X4_need D cI x0 g0 g1 g2 g3 g4 l0 l1 l2 l3 l4 l5 t0 t1 t2 xr xt gn gu gb ga lc lk ln lt ll lr tw tn tt a1 a2 (va_A (W_X4 cI x0 g0 g1 g2 g3 g4 l0 l1 l2 l3 l4 l5 t0 t1 t2 xr xt gn gu gb ga lc lk ln lt ll lr tw tn tt) sz)) 3 18 (va_A (W_X4 cI x0 g0 g1 g2 g3 g4 l0 l1 l2 l3 l4 l5 t0 t1 t2 xr xt gn gu gb ga lc lk ln lt ll lr tw tn tt) sz) := by
  refine vx_ofW (cc := cX4_need) (maxL := 3) (ret := (some .boolean)) (by decide) rfl ?_
  intro p e s m args below meth c s₁ B hml ht hv
  obtain ⟨rfl, ⟨hsz, hP, hK, hD0, hN⟩, hXB⟩ := hv
  have hx := B.exec
  have hb := B.bytes
  have hr := B.returns
  have hts := atoms_spec (ws := wsX4_need) B.pre
  have hown : s.vm.findClass RX4 = some m.cls := findClass_of_methodNamed B.named
  have hlocks := B.notSynchronized
  subst hsz
  have hD := hD0.self (sz := s.heap.size)
  generalize hAe : va_A (W_X4 cI x0 g0 g1 g2 g3 g4 l0 l1 l2 l3 l4 l5 t0 t1 t2 xr xt gn gu gb ga lc lk ln lt ll lr tw tn tt) s.heap.size = A at hD hXB ⊢
  have hA : ∀ q : Nat, s.heap.size ≤ q → A q := fun q h => by rw [← hAe]; exact Or.inr h
  have hS : va_S A s.heap s.heap [] := va_S.rf
  have hl := lv_entry ([.ref x0, .int a1, .int a2]) (n := 3) (Nat.le_of_ble_eq_true rfl)
  rw [lg_entry_eq]
  generalize (lg_sl ([.ref x0, .int a1, .int a2]) ++ List.replicate (3 - (lg_sl ([.ref x0, .int a1, .int a2])).length) Slot.unset).toArray = ls at hl ⊢
  have hl : lv_has ls 3 [(0, .ref x0), (1, .int a1), (2, .int a2)] := hl
  have he := f_X4_need.eq_1 gn gu gb ga a1 a2
  replace hp := Eq.mp (p_X4_need.eq_1 ..) hp
  refine lv_iload_n hx hb dX4_need_0 rfl (lv_at hl 1 rfl) ?_
  refine k_xcallv (S := Unit) (px := fun E => f_X4_checkNode a1 = .inl E ∧ (E = eIO)) (wc := ([] : va_W)) (wr := (W_X4 cI x0 g0 g1 g2 g3 g4 l0 l1 l2 l3 l4 l5 t0 t1 t2 xr xt gn gu gb ga lc lk ln lt ll lr tw tn tt)) (w1 := fun u => ([] : va_W)) (fun u => (W_X4 cI x0 g0 g1 g2 g3 g4 l0 l1 l2 l3 l4 l5 t0 t1 t2 xr xt gn gu gb ga lc lk ln lt ll lr tw tn tt)) hP hK hD hN hXB hS hA [] [0, 1, 2, 3, 4, 5, 6, 7, 8, 9, 10, 11, 12, 13, 14] rfl rfl (by decide) (by decide) (by decide) [0, 1, 2, 3, 4, 5, 6, 7, 8, 9, 10, 11, 12, 13, 14] (by decide) (fun _ => rfl) rfl (fun hg => vx_runS (As := [.int a1]) (rest := []) ⟨hx, hb, hml, hown, hts⟩ (c_X4_checkNode l D cI _ a1 hst) (va_cwS 1 hts gX4_need_X4_checkNode rfl rfl rfl (by decide +kernel) ⟨Nat.le_of_ble_eq_true rfl, Nat.le_of_ble_eq_true rfl⟩) ⟨PX.blind, fun U hU hW => ⟨rfl, hg U hU hW⟩⟩ rfl rfl hl.1 rfl (lv_room (Nat.le_of_ble_eq_true rfl)) dX4_need_1 ⟨Nat.le_of_ble_eq_true rfl, Nat.le_of_ble_eq_true rfl⟩) (fun E ce q9 H locs hw hP hD hS hc9 hv9 hcl9 => ?_) (fun u H locs hw hP hD hS => ?_)
  · rw [hw.1] at he
    try dsimp only at he
    exact k_out (fun x hx => (ht x hx).elim) hlocks hP hK hD hS hc9 hv9 hcl9 (Nat.le_of_ble_eq_true rfl) (Nat.le_of_ble_eq_true rfl) ⟨he, Or.inl hw.2⟩
  · rw [hw] at he
    try dsimp only at he
    replace hp := hp  hw
    refine lv_iload_n hx hb dX4_need_4 rfl (lv_at hl 2 rfl) ?_
    refine k_xcallv (S := Unit) (px := fun E => f_X4_checkNode a2 = .inl E ∧ (E = eIO)) (wc := ([] : va_W)) (wr := (W_X4 cI x0 g0 g1 g2 g3 g4 l0 l1 l2 l3 l4 l5 t0 t1 t2 xr xt gn gu gb ga lc lk ln lt ll lr tw tn tt)) (w1 := fun u => ([] : va_W)) (fun u => (W_X4 cI x0 g0 g1 g2 g3 g4 l0 l1 l2 l3 l4 l5 t0 t1 t2 xr xt gn gu gb ga lc lk ln lt ll lr tw tn tt)) hP hK hD hN hXB hS hA [] [0, 1, 2, 3, 4, 5, 6, 7, 8, 9, 10, 11, 12, 13, 14] rfl rfl (by decide) (by decide) (by decide) [0, 1, 2, 3, 4, 5, 6, 7, 8, 9, 10, 11, 12, 13, 14] (by decide) (fun _ => rfl) rfl (fun hg => vx_runS (As := [.int a2]) (rest := []) ⟨hx, hb, hml, hown, hts⟩ (c_X4_checkNode l D cI _ a2 hst) (va_cwS 1 hts gX4_need_X4_checkNode rfl rfl rfl (by decide +kernel) ⟨Nat.le_of_ble_eq_true rfl, Nat.le_of_ble_eq_true rfl⟩) ⟨PX.blind, fun U hU hW => ⟨rfl, hg U hU hW⟩⟩ rfl rfl hl.1 rfl (lv_room (Nat.le_of_ble_eq_true rfl)) dX4_need_5 ⟨Nat.le_of_ble_eq_true rfl, Nat.le_of_ble_eq_true rfl⟩) (fun E ce q9 H locs hw hP hD hS hc9 hv9 hcl9 => ?_) (fun u H locs hw hP hD hS => ?_)
    · rw [hw.1] at he
      try dsimp only at he
      exact k_out (fun x hx => (ht x hx).elim) hlocks hP hK hD hS hc9 hv9 hcl9 (Nat.le_of_ble_eq_true rfl) (Nat.le_of_ble_eq_true rfl) ⟨he, Or.inl hw.2⟩
    · rw [hw] at he
      try dsimp only at he
      replace hp := hp  hw
      refine lv_iload_n hx hb dX4_need_8 rfl (lv_at hl 1 rfl) ?_
      refine lv_iload_n hx hb dX4_need_9 rfl (lv_at hl 2 rfl) ?_
      refine lv_icmp_eq (tgt := 28) hx hb dX4_need_10 (by decide) (fun c3 => ?_) (fun c3 => ?_)
      · replace hp := hp.1 c3
        replace he := he.trans (if_pos c3)
        exact k_throw (cls := eIA) (text := "a node would depend on itself") hx hb hst hts hown (by decide +kernel) (by decide +kernel) (by decide +kernel) (by decide +kernel) (by decide +kernel) (by decide +kernel) (by decide +kernel) hXB hP hK hD hS (by rw [hml]; exact hl.1) dX4_need_28 dX4_need_31 dX4_need_32 dX4_need_34 dX4_need_37 (fun x hx => (ht x hx).elim) (Nat.le_of_ble_eq_true rfl) (Nat.le_of_ble_eq_true rfl) (Nat.le_of_ble_eq_true rfl) (Nat.le_of_ble_eq_true rfl) hlocks (Nat.le_of_ble_eq_true rfl) (Nat.le_of_ble_eq_true rfl) ⟨he, Or.inr (rfl)⟩
      · replace hp := hp.2 c3
        replace he := he.trans (if_neg c3)
        refine lv_aload_n hx hb dX4_need_13 rfl (lv_at hl 0 rfl) ?_
        refine va_get (D := D) (ci := 4) (v := .ref g0) (C := RX4) (T := TX4) (N := 5) hx hb hts (by decide +kernel) hown hK hP 0 rfl rfl 0 (by decide) (hts (.fieldLink RX4 10 "Alarmgrove" "graph" "LAlarmgrove$Graph;") (by decide +kernel)) (fun _ h9 => h9) rfl dX4_need_14 ?_
        refine lv_iload_n hx hb dX4_need_17 rfl (lv_at hl 2 rfl) ?_
        have hq4 := hp.1
        replace hp := hp.2
        refine k_calli (S := Unit) (wc := (W_X1 cI g0 g1 g2 g3 g4 gn gu gb ga)) (wr := ([(x0, .inr (4, [.ref g0, .ref l0, .ref t0, .int xr, .int xt]))] ++ (W_X2 cI l0 l1 l2 l3 l4 l5 lc lk ln lt ll lr) ++ (W_X3 cI t0 t1 t2 tw tn tt))) (w1 := fun u => (W_X1 cI g0 g1 g2 g3 g4 gn gu gb ga)) (fun u => (W_X4 cI x0 g0 g1 g2 g3 g4 l0 l1 l2 l3 l4 l5 t0 t1 t2 xr xt gn gu gb ga lc lk ln lt ll lr tw tn tt)) hP hK hD hN hS hA [1, 2, 3, 4, 5] [0, 6, 7, 8, 9, 10, 11, 12, 13, 14] rfl rfl (by decide) (by decide) (by decide) [0, 10, 11, 12, 13, 14, 1, 2, 3, 4, 5, 6, 7, 8, 9] (by decide) (fun _ => rfl) (fun hg => va_runV (As := [.int a2]) (rest := []) ⟨hx, hb, hml, hown, hts⟩ (c_X1_below l D cI g0 g1 g2 g3 g4 gn gu gb ga _ a2 hq4) (cwV 1 hts gX4_need_X1_below rfl rfl rfl (by decide +kernel) ⟨Nat.le_of_ble_eq_true rfl, Nat.le_of_ble_eq_true rfl⟩) ⟨PW.blind, va_recv hK hP (ci := 1) (q0 := 1) rfl rfl, fun U hU hW => ⟨rfl, hg U hU hW⟩⟩ rfl rfl hl.1 rfl (lv_room (Nat.le_of_ble_eq_true rfl)) dX4_need_18 ⟨Nat.le_of_ble_eq_true rfl, Nat.le_of_ble_eq_true rfl⟩) (fun r4 u H locs hw hP hD hS => ?_)
        subst hw
        refine lv_iload_n hx hb dX4_need_21 rfl (lv_at hl 1 rfl) ?_
        refine k_calli (S := Unit) (wc := ([] : va_W)) (wr := (W_X4 cI x0 g0 g1 g2 g3 g4 l0 l1 l2 l3 l4 l5 t0 t1 t2 xr xt gn gu gb ga lc lk ln lt ll lr tw tn tt)) (w1 := fun u => ([] : va_W)) (fun u => (W_X4 cI x0 g0 g1 g2 g3 g4 l0 l1 l2 l3 l4 l5 t0 t1 t2 xr xt gn gu gb ga lc lk ln lt ll lr tw tn tt)) hP hK hD hN hS hA [] [0, 1, 2, 3, 4, 5, 6, 7, 8, 9, 10, 11, 12, 13, 14] rfl rfl (by decide) (by decide) (by decide) [0, 1, 2, 3, 4, 5, 6, 7, 8, 9, 10, 11, 12, 13, 14] (by decide) (fun _ => rfl) (fun hg => va_runS (As := [.int (f_X1_below gb a2), .int a1]) (rest := []) ⟨hx, hb, hml, hown, hts⟩ (c_X4_has l D cI _ (f_X1_below gb a2) a1) (va_cwS 2 hts gX4_need_X4_has rfl rfl rfl (by decide +kernel) ⟨Nat.le_of_ble_eq_true rfl, Nat.le_of_ble_eq_true rfl⟩) ⟨PW.blind, fun U hU hW => ⟨rfl, hg U hU hW⟩⟩ rfl rfl hl.1 rfl (lv_room (Nat.le_of_ble_eq_true rfl)) dX4_need_22 ⟨Nat.le_of_ble_eq_true rfl, Nat.le_of_ble_eq_true rfl⟩) (fun r5 u H locs hw hP hD hS => ?_)
        obtain ⟨hw, hb5⟩ := hw
        subst hw
        refine lv_if_eq (tgt := 38) hx hb dX4_need_25 (by decide) (fun c6 => ?_) (fun c6 => ?_)
        · replace hp := hp.1 c6
          replace he := he.trans (if_pos c6)
          refine lv_aload_n hx hb dX4_need_38 rfl (lv_at hl 0 rfl) ?_
          refine va_get (D := D) (ci := 4) (v := .ref g0) (C := RX4) (T := TX4) (N := 5) hx hb hts (by decide +kernel) hown hK hP 0 rfl rfl 0 (by decide) (hts (.fieldLink RX4 10 "Alarmgrove" "graph" "LAlarmgrove$Graph;") (by decide +kernel)) (fun _ h9 => h9) rfl dX4_need_39 ?_
          refine lv_iload_n hx hb dX4_need_42 rfl (lv_at hl 1 rfl) ?_
          refine lv_iload_n hx hb dX4_need_43 rfl (lv_at hl 2 rfl) ?_
          have hq7 := hp.1
          replace hp := hp.2
          refine k_calli (S := AA × AA × AA × AA) (wc := (W_X1 cI g0 g1 g2 g3 g4 gn gu gb ga)) (wr := ([(x0, .inr (4, [.ref g0, .ref l0, .ref t0, .int xr, .int xt]))] ++ (W_X2 cI l0 l1 l2 l3 l4 l5 lc lk ln lt ll lr) ++ (W_X3 cI t0 t1 t2 tw tn tt))) (w1 := fun u => (W_X1 cI g0 g1 g2 g3 g4 u.1 u.2.1 u.2.2.1 u.2.2.2)) (fun u => (W_X4 cI x0 g0 g1 g2 g3 g4 l0 l1 l2 l3 l4 l5 t0 t1 t2 xr xt u.1 u.2.1 u.2.2.1 u.2.2.2 lc lk ln lt ll lr tw tn tt)) hP hK hD hN hS hA [1, 2, 3, 4, 5] [0, 6, 7, 8, 9, 10, 11, 12, 13, 14] rfl rfl (by decide) (by decide) (by decide) [0, 10, 11, 12, 13, 14, 1, 2, 3, 4, 5, 6, 7, 8, 9] (by decide) (fun _ => rfl) (fun hg => va_runV (As := [.int a1, .int a2]) (rest := []) ⟨hx, hb, hml, hown, hts⟩ (c_X1_link l D cI g0 g1 g2 g3 g4 gn gu gb ga _ a1 a2 hq7) (cwV 2 hts gX4_need_X1_link rfl rfl rfl (by decide +kernel) ⟨Nat.le_of_ble_eq_true rfl, Nat.le_of_ble_eq_true rfl⟩) ⟨PW.blind, va_recv hK hP (ci := 1) (q0 := 1) rfl rfl, fun U hU hW => ⟨rfl, hg U hU hW⟩⟩ rfl rfl hl.1 rfl (lv_room (Nat.le_of_ble_eq_true rfl)) dX4_need_44 ⟨Nat.le_of_ble_eq_true rfl, Nat.le_of_ble_eq_true rfl⟩) (fun r7 u H locs hw hP hD hS => ?_)
          obtain ⟨u7_0, u7_1, u7_2, u7_3⟩ := u
          obtain ⟨hw, hb7⟩ := hw
          rw [hw] at he
          try dsimp only at he
          replace hp := hp r7 u7_0 u7_1 u7_2 u7_3 hw
          have hP : va_P D vwCl (W_X4 cI x0 g0 g1 g2 g3 g4 l0 l1 l2 l3 l4 l5 t0 t1 t2 xr xt u7_0 u7_1 u7_2 u7_3 lc lk ln lt ll lr tw tn tt) H := hP
          have hD : va_D A (W_X4 cI x0 g0 g1 g2 g3 g4 l0 l1 l2 l3 l4 l5 t0 t1 t2 xr xt u7_0 u7_1 u7_2 u7_3 lc lk ln lt ll lr tw tn tt) := hD
          refine W.widen (k := 3) (n := 18) (Nat.le_of_ble_eq_true rfl) (Nat.le_of_ble_eq_true rfl) ?_
          refine vx_ret ?_
          exact W.zret (ty := .boolean) (v := r7) hx hb hr (by rcases hb7 with h9 | h9 <;> rw [h9] <;> rfl) (fun t ht hW => ⟨⟨r7, (u7_0, u7_1, u7_2, u7_3), rfl, ⟨he, hb7⟩, by rw [ht]; exact hP, va_K.moved hW.alike hK, hD⟩, hS.F ht⟩) hS.2.2 dX4_need_47
        · replace hp := hp.2 c6
          replace he := he.trans (if_neg c6)
          exact k_throw (cls := eIA) (text := "a node would depend on itself") hx hb hst hts hown (by decide +kernel) (by decide +kernel) (by decide +kernel) (by decide +kernel) (by decide +kernel) (by decide +kernel) (by decide +kernel) hXB hP hK hD hS (by rw [hml]; exact hl.1) dX4_need_28 dX4_need_31 dX4_need_32 dX4_need_34 dX4_need_37 (fun x hx => (ht x hx).elim) (Nat.le_of_ble_eq_true rfl) (Nat.le_of_ble_eq_true rfl) (Nat.le_of_ble_eq_true rfl) (Nat.le_of_ble_eq_true rfl) hlocks (Nat.le_of_ble_eq_true rfl) (Nat.le_of_ble_eq_true rfl) ⟨he, Or.inr (rfl)⟩
abbrev rm_X4_release : Room := { frames := 7, cells := 2, slots := 12, locals := 131 }
abbrev Q_X4_release (D : va_G) (cI : ClassId) (x0 g0 g1 g2 g3 g4 l0 l1 l2 l3 l4 l5 t0 t1 t2 : Nat) (xr : Int32) (xt : Int32) (gn : AA) (gu : AA) (gb : AA) (ga : AA) (lc : Int32) (lk : AA) (ln : AA) (lt : AA) (ll : AA) (lr : AA) (tw : Int32) (tn : AA) (tt : AA) (a1 a2 : Int32) (A : Nat → Prop) : Array Value → State → Outcome → State → Prop := va_Qi (S := AA × AA × AA × AA) (fun r u => f_X4_release gn gu gb ga a1 a2 = .inr (r, u) ∧ (r = 0 ∨ r = 1)) (fun u t => QW D [(cI, .int)] A (W_X4 cI x0 g0 g1 g2 g3 g4 l0 l1 l2 l3 l4 l5 t0 t1 t2 xr xt u.1 u.2.1 u.2.2.1 u.2.2.2 lc lk ln lt ll lr tw tn tt) t) A
abbrev X_X4_release (D : va_G) (cI : ClassId) (x0 g0 g1 g2 g3 g4 l0 l1 l2 l3 l4 l5 t0 t1 t2 : Nat) (xr : Int32) (xt : Int32) (gn : AA) (gu : AA) (gb : AA) (ga : AA) (lc : Int32) (lk : AA) (ln : AA) (lt : AA) (ll : AA) (lr : AA) (tw : Int32) (tn : AA) (tt : AA) (a1 a2 : Int32) (A : Nat → Prop) : String → State → State → Prop := vx_X (fun _ : Unit => True) (fun E _ t => (f_X4_release gn gu gb ga a1 a2 = .inl E ∧ (E = eIO)) ∧ QW D [(cI, .int)] A (W_X4 cI x0 g0 g1 g2 g3 g4 l0 l1 l2 l3 l4 l5 t0 t1 t2 xr xt gn gu gb ga lc lk ln lt ll lr tw tn tt) t) A
set_option maxHeartbeats 4000000 in
set_option maxRecDepth 100000 in
theorem c_X4_release (l : Launch)  (D : va_G) (cI : ClassId) (x0 g0 g1 g2 g3 g4 l0 l1 l2 l3 l4 l5 t0 t1 t2 : Nat) (xr : Int32) (xt : Int32) (gn : AA) (gu : AA) (gb : AA) (ga : AA) (lc : Int32) (lk : AA) (ln : AA) (lt : AA) (ll : AA) (lr : AA) (tw : Int32) (tn : AA) (tt : AA) (sz : Nat) (a1 a2 : Int32) (hp : p_X4_release gn gu gb ga a1 a2) (hst : l.stackTraces = false) : vx_Met l yX4_release wsX4_release rm_X4_release (va_Pc [.ref x0, .int a1, .int a2] (PX D [(cI, .int)] sz (W_X4 cI x0 g0 g1 g2 g3 g4 l0 l1 l2 l3 l4 l5 t0 t1 t2 xr xt gn gu gb ga lc lk ln lt ll lr tw tn tt))) (Q_X4_release D cI x0 g0 g1 g2 g3 g4 l0 l1 l2 l3 l4 l5 t0 t1 t2 xr xt gn gu gb ga lc lk ln lt ll lr tw tn tt a1 a2 (va_A (W_X4 cI x0 g0 g1 g2 g3 g4 l0 l1 l2 l3 l4 l5 t0 t1 t2 xr xt gn gu gb ga lc lk ln lt ll lr tw tn tt) sz)) (X_X4_release D cI x0 g0 g1 g2 g3 g4 l0 l1 l2 l3 l4 l5 t0 t1 t2 xr xt gn gu gb ga lc lk ln lt ll lr tw tn tt a1 a2 (va_A (W_X4 cI x0 g0 g1 g2 g3 g4 l0 l1 l2 l3 l4 l5 t0 t1 t2 xr xt gn gu gb ga lc lk ln lt ll lr tw tn tt) sz)) 2 12 (va_A (W_X4 cI x0 g0 g1 g2 g3 g4 l0 l1 l2 l3 l4 l5 t0 t1 t2 xr xt gn gu gb ga lc lk ln lt ll lr tw tn tt) sz) := by
  refine vx_ofW (cc := cX4_release) (maxL := 3) (ret := (some .boolean)) (by decide) rfl ?_
  intro p e s m args below meth c s₁ B hml ht hv
  obtain ⟨rfl, ⟨hsz, hP, hK, hD0, hN⟩, hXB⟩ := hv
  have hx := B.exec
  have hb := B.bytes
  have hr := B.returns
  have hts := atoms_spec (ws := wsX4_release) B.pre
  have hown : s.vm.findClass RX4 = some m.cls := findClass_of_methodNamed B.named
  have hlocks := B.notSynchronized
  subst hsz
  have hD := hD0.self (sz := s.heap.size)
  generalize hAe : va_A (W_X4 cI x0 g0 g1 g2 g3 g4 l0 l1 l2 l3 l4 l5 t0 t1 t2 xr xt gn gu gb ga lc lk ln lt ll lr tw tn tt) s.heap.size = A at hD hXB ⊢
  have hA : ∀ q : Nat, s.heap.size ≤ q → A q := fun q h => by rw [← hAe]; exact Or.inr h
  have hS : va_S A s.heap s.heap [] := va_S.rf
  have hl := lv_entry ([.ref x0, .int a1, .int a2]) (n := 3) (Nat.le_of_ble_eq_true rfl)
  rw [lg_entry_eq]
  generalize (lg_sl ([.ref x0, .int a1, .int a2]) ++ List.replicate (3 - (lg_sl ([.ref x0, .int a1, .int a2])).length) Slot.unset).toArray = ls at hl ⊢
  have hl : lv_has ls 3 [(0, .ref x0), (1, .int a1), (2, .int a2)] := hl
  have he := f_X4_release.eq_1 gn gu gb ga a1 a2
  replace hp := Eq.mp (p_X4_release.eq_1 ..) hp
  refine lv_iload_n hx hb dX4_release_0 rfl (lv_at hl 1 rfl) ?_
  refine k_xcallv (S := Unit) (px := fun E => f_X4_checkNode a1 = .inl E ∧ (E = eIO)) (wc := ([] : va_W)) (wr := (W_X4 cI x0 g0 g1 g2 g3 g4 l0 l1 l2 l3 l4 l5 t0 t1 t2 xr xt gn gu gb ga lc lk ln lt ll lr tw tn tt)) (w1 := fun u => ([] : va_W)) (fun u => (W_X4 cI x0 g0 g1 g2 g3 g4 l0 l1 l2 l3 l4 l5 t0 t1 t2 xr xt gn gu gb ga lc lk ln lt ll lr tw tn tt)) hP hK hD hN hXB hS hA [] [0, 1, 2, 3, 4, 5, 6, 7, 8, 9, 10, 11, 12, 13, 14] rfl rfl (by decide) (by decide) (by decide) [0, 1, 2, 3, 4, 5, 6, 7, 8, 9, 10, 11, 12, 13, 14] (by decide) (fun _ => rfl) rfl (fun hg => vx_runS (As := [.int a1]) (rest := []) ⟨hx, hb, hml, hown, hts⟩ (c_X4_checkNode l D cI _ a1 hst) (va_cwS 1 hts gX4_release_X4_checkNode rfl rfl rfl (by decide +kernel) ⟨Nat.le_of_ble_eq_true rfl, Nat.le_of_ble_eq_true rfl⟩) ⟨PX.blind, fun U hU hW => ⟨rfl, hg U hU hW⟩⟩ rfl rfl hl.1 rfl (lv_room (Nat.le_of_ble_eq_true rfl)) dX4_release_1 ⟨Nat.le_of_ble_eq_true rfl, Nat.le_of_ble_eq_true rfl⟩) (fun E ce q9 H locs hw hP hD hS hc9 hv9 hcl9 => ?_) (fun u H locs hw hP hD hS => ?_)
  · rw [hw.1] at he
    try dsimp only at he
    exact k_out (fun x hx => (ht x hx).elim) hlocks hP hK hD hS hc9 hv9 hcl9 (Nat.le_of_ble_eq_true rfl) (Nat.le_of_ble_eq_true rfl) ⟨he, hw.2⟩
  · rw [hw] at he
    try dsimp only at he
    replace hp := hp  hw
    refine lv_iload_n hx hb dX4_release_4 rfl (lv_at hl 2 rfl) ?_
    refine k_xcallv (S := Unit) (px := fun E => f_X4_checkNode a2 = .inl E ∧ (E = eIO)) (wc := ([] : va_W)) (wr := (W_X4 cI x0 g0 g1 g2 g3 g4 l0 l1 l2 l3 l4 l5 t0 t1 t2 xr xt gn gu gb ga lc lk ln lt ll lr tw tn tt)) (w1 := fun u => ([] : va_W)) (fun u => (W_X4 cI x0 g0 g1 g2 g3 g4 l0 l1 l2 l3 l4 l5 t0 t1 t2 xr xt gn gu gb ga lc lk ln lt ll lr tw tn tt)) hP hK hD hN hXB hS hA [] [0, 1, 2, 3, 4, 5, 6, 7, 8, 9, 10, 11, 12, 13, 14] rfl rfl (by decide) (by decide) (by decide) [0, 1, 2, 3, 4, 5, 6, 7, 8, 9, 10, 11, 12, 13, 14] (by decide) (fun _ => rfl) rfl (fun hg => vx_runS (As := [.int a2]) (rest := []) ⟨hx, hb, hml, hown, hts⟩ (c_X4_checkNode l D cI _ a2 hst) (va_cwS 1 hts gX4_release_X4_checkNode rfl rfl rfl (by decide +kernel) ⟨Nat.le_of_ble_eq_true rfl, Nat.le_of_ble_eq_true rfl⟩) ⟨PX.blind, fun U hU hW => ⟨rfl, hg U hU hW⟩⟩ rfl rfl hl.1 rfl (lv_room (Nat.le_of_ble_eq_true rfl)) dX4_release_5 ⟨Nat.le_of_ble_eq_true rfl, Nat.le_of_ble_eq_true rfl⟩) (fun E ce q9 H locs hw hP hD hS hc9 hv9 hcl9 => ?_) (fun u H locs hw hP hD hS => ?_)
    · rw [hw.1] at he
      try dsimp only at he
      exact k_out (fun x hx => (ht x hx).elim) hlocks hP hK hD hS hc9 hv9 hcl9 (Nat.le_of_ble_eq_true rfl) (Nat.le_of_ble_eq_true rfl) ⟨he, hw.2⟩
    · rw [hw] at he
      try dsimp only at he
      replace hp := hp  hw
      refine lv_aload_n hx hb dX4_release_8 rfl (lv_at hl 0 rfl) ?_
      refine va_get (D := D) (ci := 4) (v := .ref g0) (C := RX4) (T := TX4) (N := 5) hx hb hts (by decide +kernel) hown hK hP 0 rfl rfl 0 (by decide) (hts (.fieldLink RX4 10 "Alarmgrove" "graph" "LAlarmgrove$Graph;") (by decide +kernel)) (fun _ h9 => h9) rfl dX4_release_9 ?_
      refine lv_iload_n hx hb dX4_release_12 rfl (lv_at hl 1 rfl) ?_
      refine lv_iload_n hx hb dX4_release_13 rfl (lv_at hl 2 rfl) ?_
      have hq3 := hp.1
      replace hp := hp.2
      refine k_calli (S := AA × AA × AA × AA) (wc := (W_X1 cI g0 g1 g2 g3 g4 gn gu gb ga)) (wr := ([(x0, .inr (4, [.ref g0, .ref l0, .ref t0, .int xr, .int xt]))] ++ (W_X2 cI l0 l1 l2 l3 l4 l5 lc lk ln lt ll lr) ++ (W_X3 cI t0 t1 t2 tw tn tt))) (w1 := fun u => (W_X1 cI g0 g1 g2 g3 g4 u.1 u.2.1 u.2.2.1 u.2.2.2)) (fun u => (W_X4 cI x0 g0 g1 g2 g3 g4 l0 l1 l2 l3 l4 l5 t0 t1 t2 xr xt u.1 u.2.1 u.2.2.1 u.2.2.2 lc lk ln lt ll lr tw tn tt)) hP hK hD hN hS hA [1, 2, 3, 4, 5] [0, 6, 7, 8, 9, 10, 11, 12, 13, 14] rfl rfl (by decide) (by decide) (by decide) [0, 10, 11, 12, 13, 14, 1, 2, 3, 4, 5, 6, 7, 8, 9] (by decide) (fun _ => rfl) (fun hg => va_runV (As := [.int a1, .int a2]) (rest := []) ⟨hx, hb, hml, hown, hts⟩ (c_X1_unlink l D cI g0 g1 g2 g3 g4 gn gu gb ga _ a1 a2 hq3) (cwV 2 hts gX4_release_X1_unlink rfl rfl rfl (by decide +kernel) ⟨Nat.le_of_ble_eq_true rfl, Nat.le_of_ble_eq_true rfl⟩) ⟨PW.blind, va_recv hK hP (ci := 1) (q0 := 1) rfl rfl, fun U hU hW => ⟨rfl, hg U hU hW⟩⟩ rfl rfl hl.1 rfl (lv_room (Nat.le_of_ble_eq_true rfl)) dX4_release_14 ⟨Nat.le_of_ble_eq_true rfl, Nat.le_of_ble_eq_true rfl⟩) (fun r3 u H locs hw hP hD hS => ?_)
      obtain ⟨u3_0, u3_1, u3_2, u3_3⟩ := u
      obtain ⟨hw, hb3⟩ := hw
      rw [hw] at he
      try dsimp only at he
      replace hp := hp r3 u3_0 u3_1 u3_2 u3_3 hw
      have hP : va_P D vwCl (W_X4 cI x0 g0 g1 g2 g3 g4 l0 l1 l2 l3 l4 l5 t0 t1 t2 xr xt u3_0 u3_1 u3_2 u3_3 lc lk ln lt ll lr tw tn tt) H := hP
      have hD : va_D A (W_X4 cI x0 g0 g1 g2 g3 g4 l0 l1 l2 l3 l4 l5 t0 t1 t2 xr xt u3_0 u3_1 u3_2 u3_3 lc lk ln lt ll lr tw tn tt) := hD
      refine vx_ret ?_
      exact W.zret (ty := .boolean) (v := r3) hx hb hr (by rcases hb3 with h9 | h9 <;> rw [h9] <;> rfl) (fun t ht hW => ⟨⟨r3, (u3_0, u3_1, u3_2, u3_3), rfl, ⟨he, hb3⟩, by rw [ht]; exact hP, va_K.moved hW.alike hK, hD⟩, hS.F ht⟩) hS.2.2 dX4_release_17
abbrev rm_X4_needs : Room := { frames := 7, cells := 2, slots := 12, locals := 102 }
abbrev Q_X4_needs (D : va_G) (cI : ClassId) (x0 g0 g1 g2 g3 g4 l0 l1 l2 l3 l4 l5 t0 t1 t2 : Nat) (xr : Int32) (xt : Int32) (gn : AA) (gu : AA) (gb : AA) (ga : AA) (lc : Int32) (lk : AA) (ln : AA) (lt : AA) (ll : AA) (lr : AA) (tw : Int32) (tn : AA) (tt : AA) (a1 a2 : Int32) (A : Nat → Prop) : Array Value → State → Outcome → State → Prop := va_Qi (S := Unit) (fun r u => f_X4_needs gn a1 a2 = .inr r ∧ (r = 0 ∨ r = 1)) (fun u t => QW D [(cI, .int)] A (W_X4 cI x0 g0 g1 g2 g3 g4 l0 l1 l2 l3 l4 l5 t0 t1 t2 xr xt gn gu gb ga lc lk ln lt ll lr tw tn tt) t) A
abbrev X_X4_needs (D : va_G) (cI : ClassId) (x0 g0 g1 g2 g3 g4 l0 l1 l2 l3 l4 l5 t0 t1 t2 : Nat) (xr : Int32) (xt : Int32) (gn : AA) (gu : AA) (gb : AA) (ga : AA) (lc : Int32) (lk : AA) (ln : AA) (lt : AA) (ll : AA) (lr : AA) (tw : Int32) (tn : AA) (tt : AA) (a1 a2 : Int32) (A : Nat → Prop) : String → State → State → Prop := vx_X (fun _ : Unit => True) (fun E _ t => (f_X4_needs gn a1 a2 = .inl E ∧ (E = eIO)) ∧ QW D [(cI, .int)] A (W_X4 cI x0 g0 g1 g2 g3 g4 l0 l1 l2 l3 l4 l5 t0 t1 t2 xr xt gn gu gb ga lc lk ln lt ll lr tw tn tt) t) A
set_option maxHeartbeats 4000000 in
set_option maxRecDepth 100000 in
theorem c_X4_needs (l : Launch)  (D : va_G) (cI : ClassId) (x0 g0 g1 g2 g3 g4 l0 l1 l2 l3 l4 l5 t0 t1 t2 : Nat) (xr : Int32) (xt : Int32) (gn : AA) (gu : AA) (gb : AA) (ga : AA) (lc : Int32) (lk : AA) (ln : AA) (lt : AA) (ll : AA) (lr : AA) (tw : Int32) (tn : AA) (tt : AA) (sz : Nat) (a1 a2 : Int32) (hp : p_X4_needs a1 a2) (hst : l.stackTraces = false) : vx_Met l yX4_needs wsX4_needs rm_X4_needs (va_Pc [.ref x0, .int a1, .int a2] (PX D [(cI, .int)] sz (W_X4 cI x0 g0 g1 g2 g3 g4 l0 l1 l2 l3 l4 l5 t0 t1 t2 xr xt gn gu gb ga lc lk ln lt ll lr tw tn tt))) (Q_X4_needs D cI x0 g0 g1 g2 g3 g4 l0 l1 l2 l3 l4 l5 t0 t1 t2 xr xt gn gu gb ga lc lk ln lt ll lr tw tn tt a1 a2 (va_A (W_X4 cI x0 g0 g1 g2 g3 g4 l0 l1 l2 l3 l4 l5 t0 t1 t2 xr xt gn gu gb ga lc lk ln lt ll lr tw tn tt) sz)) (X_X4_needs D cI x0 g0 g1 g2 g3 g4 l0 l1 l2 l3 l4 l5 t0 t1 t2 xr xt gn gu gb ga lc lk ln lt ll lr tw tn tt a1 a2 (va_A (W_X4 cI x0 g0 g1 g2 g3 g4 l0 l1 l2 l3 l4 l5 t0 t1 t2 xr xt gn gu gb ga lc lk ln lt ll lr tw tn tt) sz)) 2 12 (va_A (W_X4 cI x0 g0 g1 g2 g3 g4 l0 l1 l2 l3 l4 l5 t0 t1 t2 xr xt gn gu gb ga lc lk ln lt ll lr tw tn tt) sz) := by
  refine vx_ofW (cc := cX4_needs) (maxL := 3) (ret := (some .boolean)) (by decide) rfl ?_
  intro p e s m args below meth c s₁ B hml ht hv
  obtain ⟨rfl, ⟨hsz, hP, hK, hD0, hN⟩, hXB⟩ := hv
  have hx := B.exec
  have hb := B.bytes
  have hr := B.returns
  have hts := atoms_spec (ws := wsX4_needs) B.pre
  have hown : s.vm.findClass RX4 = some m.cls := findClass_of_methodNamed B.named
  have hlocks := B.notSynchronized
  subst hsz
  have hD := hD0.self (sz := s.heap.size)
  generalize hAe : va_A (W_X4 cI x0 g0 g1 g2 g3 g4 l0 l1 l2 l3 l4 l5 t0 t1 t2 xr xt gn gu gb ga lc lk ln lt ll lr tw tn tt) s.heap.size = A at hD hXB ⊢
  have hA : ∀ q : Nat, s.heap.size ≤ q → A q := fun q h => by rw [← hAe]; exact Or.inr h
  have hS : va_S A s.heap s.heap [] := va_S.rf
  have hl := lv_entry ([.ref x0, .int a1, .int a2]) (n := 3) (Nat.le_of_ble_eq_true rfl)
  rw [lg_entry_eq]
  generalize (lg_sl ([.ref x0, .int a1, .int a2]) ++ List.replicate (3 - (lg_sl ([.ref x0, .int a1, .int a2])).length) Slot.unset).toArray = ls at hl ⊢
  have hl : lv_has ls 3 [(0, .ref x0), (1, .int a1), (2, .int a2)] := hl
  have he := f_X4_needs.eq_1 gn a1 a2
  replace hp := Eq.mp (p_X4_needs.eq_1 ..) hp
  refine lv_iload_n hx hb dX4_needs_0 rfl (lv_at hl 1 rfl) ?_
  refine k_xcallv (S := Unit) (px := fun E => f_X4_checkNode a1 = .inl E ∧ (E = eIO)) (wc := ([] : va_W)) (wr := (W_X4 cI x0 g0 g1 g2 g3 g4 l0 l1 l2 l3 l4 l5 t0 t1 t2 xr xt gn gu gb ga lc lk ln lt ll lr tw tn tt)) (w1 := fun u => ([] : va_W)) (fun u => (W_X4 cI x0 g0 g1 g2 g3 g4 l0 l1 l2 l3 l4 l5 t0 t1 t2 xr xt gn gu gb ga lc lk ln lt ll lr tw tn tt)) hP hK hD hN hXB hS hA [] [0, 1, 2, 3, 4, 5, 6, 7, 8, 9, 10, 11, 12, 13, 14] rfl rfl (by decide) (by decide) (by decide) [0, 1, 2, 3, 4, 5, 6, 7, 8, 9, 10, 11, 12, 13, 14] (by decide) (fun _ => rfl) rfl (fun hg => vx_runS (As := [.int a1]) (rest := []) ⟨hx, hb, hml, hown, hts⟩ (c_X4_checkNode l D cI _ a1 hst) (va_cwS 1 hts gX4_needs_X4_checkNode rfl rfl rfl (by decide +kernel) ⟨Nat.le_of_ble_eq_true rfl, Nat.le_of_ble_eq_true rfl⟩) ⟨PX.blind, fun U hU hW => ⟨rfl, hg U hU hW⟩⟩ rfl rfl hl.1 rfl (lv_room (Nat.le_of_ble_eq_true rfl)) dX4_needs_1 ⟨Nat.le_of_ble_eq_true rfl, Nat.le_of_ble_eq_true rfl⟩) (fun E ce q9 H locs hw hP hD hS hc9 hv9 hcl9 => ?_) (fun u H locs hw hP hD hS => ?_)
  · rw [hw.1] at he
    try dsimp only at he
    exact k_out (fun x hx => (ht x hx).elim) hlocks hP hK hD hS hc9 hv9 hcl9 (Nat.le_of_ble_eq_true rfl) (Nat.le_of_ble_eq_true rfl) ⟨he, hw.2⟩
  · rw [hw] at he
    try dsimp only at he
    replace hp := hp  hw
    refine lv_iload_n hx hb dX4_needs_4 rfl (lv_at hl 2 rfl) ?_
    refine k_xcallv (S := Unit) (px := fun E => f_X4_checkNode a2 = .inl E ∧ (E = eIO)) (wc := ([] : va_W)) (wr := (W_X4 cI x0 g0 g1 g2 g3 g4 l0 l1 l2 l3 l4 l5 t0 t1 t2 xr xt gn gu gb ga lc lk ln lt ll lr tw tn tt)) (w1 := fun u => ([] : va_W)) (fun u => (W_X4 cI x0 g0 g1 g2 g3 g4 l0 l1 l2 l3 l4 l5 t0 t1 t2 xr xt gn gu gb ga lc lk ln lt ll lr tw tn tt)) hP hK hD hN hXB hS hA [] [0, 1, 2, 3, 4, 5, 6, 7, 8, 9, 10, 11, 12, 13, 14] rfl rfl (by decide) (by decide) (by decide) [0, 1, 2, 3, 4, 5, 6, 7, 8, 9, 10, 11, 12, 13, 14] (by decide) (fun _ => rfl) rfl (fun hg => vx_runS (As := [.int a2]) (rest := []) ⟨hx, hb, hml, hown, hts⟩ (c_X4_checkNode l D cI _ a2 hst) (va_cwS 1 hts gX4_needs_X4_checkNode rfl rfl rfl (by decide +kernel) ⟨Nat.le_of_ble_eq_true rfl, Nat.le_of_ble_eq_true rfl⟩) ⟨PX.blind, fun U hU hW => ⟨rfl, hg U hU hW⟩⟩ rfl rfl hl.1 rfl (lv_room (Nat.le_of_ble_eq_true rfl)) dX4_needs_5 ⟨Nat.le_of_ble_eq_true rfl, Nat.le_of_ble_eq_true rfl⟩) (fun E ce q9 H locs hw hP hD hS hc9 hv9 hcl9 => ?_) (fun u H locs hw hP hD hS => ?_)
    · rw [hw.1] at he
      try dsimp only at he
      exact k_out (fun x hx => (ht x hx).elim) hlocks hP hK hD hS hc9 hv9 hcl9 (Nat.le_of_ble_eq_true rfl) (Nat.le_of_ble_eq_true rfl) ⟨he, hw.2⟩
    · rw [hw] at he
      try dsimp only at he
      replace hp := hp  hw
      refine lv_aload_n hx hb dX4_needs_8 rfl (lv_at hl 0 rfl) ?_
      refine va_get (D := D) (ci := 4) (v := .ref g0) (C := RX4) (T := TX4) (N := 5) hx hb hts (by decide +kernel) hown hK hP 0 rfl rfl 0 (by decide) (hts (.fieldLink RX4 10 "Alarmgrove" "graph" "LAlarmgrove$Graph;") (by decide +kernel)) (fun _ h9 => h9) rfl dX4_needs_9 ?_
      refine lv_iload_n hx hb dX4_needs_12 rfl (lv_at hl 1 rfl) ?_
      have hq3 := hp.1
      replace hp := hp.2
      refine k_calli (S := Unit) (wc := (W_X1 cI g0 g1 g2 g3 g4 gn gu gb ga)) (wr := ([(x0, .inr (4, [.ref g0, .ref l0, .ref t0, .int xr, .int xt]))] ++ (W_X2 cI l0 l1 l2 l3 l4 l5 lc lk ln lt ll lr) ++ (W_X3 cI t0 t1 t2 tw tn tt))) (w1 := fun u => (W_X1 cI g0 g1 g2 g3 g4 gn gu gb ga)) (fun u => (W_X4 cI x0 g0 g1 g2 g3 g4 l0 l1 l2 l3 l4 l5 t0 t1 t2 xr xt gn gu gb ga lc lk ln lt ll lr tw tn tt)) hP hK hD hN hS hA [1, 2, 3, 4, 5] [0, 6, 7, 8, 9, 10, 11, 12, 13, 14] rfl rfl (by decide) (by decide) (by decide) [0, 10, 11, 12, 13, 14, 1, 2, 3, 4, 5, 6, 7, 8, 9] (by decide) (fun _ => rfl) (fun hg => va_runV (As := [.int a1]) (rest := []) ⟨hx, hb, hml, hown, hts⟩ (c_X1_needed l D cI g0 g1 g2 g3 g4 gn gu gb ga _ a1 hq3) (cwV 1 hts gX4_needs_X1_needed rfl rfl rfl (by decide +kernel) ⟨Nat.le_of_ble_eq_true rfl, Nat.le_of_ble_eq_true rfl⟩) ⟨PW.blind, va_recv hK hP (ci := 1) (q0 := 1) rfl rfl, fun U hU hW => ⟨rfl, hg U hU hW⟩⟩ rfl rfl hl.1 rfl (lv_room (Nat.le_of_ble_eq_true rfl)) dX4_needs_13 ⟨Nat.le_of_ble_eq_true rfl, Nat.le_of_ble_eq_true rfl⟩) (fun r3 u H locs hw hP hD hS => ?_)
      subst hw
      refine lv_iload_n hx hb dX4_needs_16 rfl (lv_at hl 2 rfl) ?_
      refine k_calli (S := Unit) (wc := ([] : va_W)) (wr := (W_X4 cI x0 g0 g1 g2 g3 g4 l0 l1 l2 l3 l4 l5 t0 t1 t2 xr xt gn gu gb ga lc lk ln lt ll lr tw tn tt)) (w1 := fun u => ([] : va_W)) (fun u => (W_X4 cI x0 g0 g1 g2 g3 g4 l0 l1 l2 l3 l4 l5 t0 t1 t2 xr xt gn gu gb ga lc lk ln lt ll lr tw tn tt)) hP hK hD hN hS hA [] [0, 1, 2, 3, 4, 5, 6, 7, 8, 9, 10, 11, 12, 13, 14] rfl rfl (by decide) (by decide) (by decide) [0, 1, 2, 3, 4, 5, 6, 7, 8, 9, 10, 11, 12, 13, 14] (by decide) (fun _ => rfl) (fun hg => va_runS (As := [.int (f_X1_needed gn a1), .int a2]) (rest := []) ⟨hx, hb, hml, hown, hts⟩ (c_X4_has l D cI _ (f_X1_needed gn a1) a2) (va_cwS 2 hts gX4_needs_X4_has rfl rfl rfl (by decide +kernel) ⟨Nat.le_of_ble_eq_true rfl, Nat.le_of_ble_eq_true rfl⟩) ⟨PW.blind, fun U hU hW => ⟨rfl, hg U hU hW⟩⟩ rfl rfl hl.1 rfl (lv_room (Nat.le_of_ble_eq_true rfl)) dX4_needs_17 ⟨Nat.le_of_ble_eq_true rfl, Nat.le_of_ble_eq_true rfl⟩) (fun r4 u H locs hw hP hD hS => ?_)
      obtain ⟨hw, hb4⟩ := hw
      subst hw
      refine vx_ret ?_
      exact W.zret (ty := .boolean) (v := (f_X4_has (f_X1_needed gn a1) a2)) hx hb hr (by rcases hb4 with h9 | h9 <;> rw [h9] <;> rfl) (fun t ht hW => ⟨⟨(f_X4_has (f_X1_needed gn a1) a2), (), rfl, ⟨he, hb4⟩, by rw [ht]; exact hP, va_K.moved hW.alike hK, hD⟩, hS.F ht⟩) hS.2.2 dX4_needs_20
abbrev rm_X4_dependsOn : Room := { frames := 7, cells := 2, slots := 12, locals := 102 }
abbrev Q_X4_dependsOn (D : va_G) (cI : ClassId) (x0 g0 g1 g2 g3 g4 l0 l1 l2 l3 l4 l5 t0 t1 t2 : Nat) (xr : Int32) (xt : Int32) (gn : AA) (gu : AA) (gb : AA) (ga : AA) (lc : Int32) (lk : AA) (ln : AA) (lt : AA) (ll : AA) (lr : AA) (tw : Int32) (tn : AA) (tt : AA) (a1 a2 : Int32) (A : Nat → Prop) : Array Value → State → Outcome → State → Prop := va_Qi (S := Unit) (fun r u => f_X4_dependsOn gb a1 a2 = .inr r ∧ (r = 0 ∨ r = 1)) (fun u t => QW D [(cI, .int)] A (W_X4 cI x0 g0 g1 g2 g3 g4 l0 l1 l2 l3 l4 l5 t0 t1 t2 xr xt gn gu gb ga lc lk ln lt ll lr tw tn tt) t) A
abbrev X_X4_dependsOn (D : va_G) (cI : ClassId) (x0 g0 g1 g2 g3 g4 l0 l1 l2 l3 l4 l5 t0 t1 t2 : Nat) (xr : Int32) (xt : Int32) (gn : AA) (gu : AA) (gb : AA) (ga : AA) (lc : Int32) (lk : AA) (ln : AA) (lt : AA) (ll : AA) (lr : AA) (tw : Int32) (tn : AA) (tt : AA) (a1 a2 : Int32) (A : Nat → Prop) : String → State → State → Prop := vx_X (fun _ : Unit => True) (fun E _ t => (f_X4_dependsOn gb a1 a2 = .inl E ∧ (E = eIO)) ∧ QW D [(cI, .int)] A (W_X4 cI x0 g0 g1 g2 g3 g4 l0 l1 l2 l3 l4 l5 t0 t1 t2 xr xt gn gu gb ga lc lk ln lt ll lr tw tn tt) t) A
set_option maxHeartbeats 4000000 in
set_option maxRecDepth 100000 in
theorem c_X4_dependsOn (l : Launch)  (D : va_G) (cI : ClassId) (x0 g0 g1 g2 g3 g4 l0 l1 l2 l3 l4 l5 t0 t1 t2 : Nat) (xr : Int32) (xt : Int32) (gn : AA) (gu : AA) (gb : AA) (ga : AA) (lc : Int32) (lk : AA) (ln : AA) (lt : AA) (ll : AA) (lr : AA) (tw : Int32) (tn : AA) (tt : AA) (sz : Nat) (a1 a2 : Int32) (hp : p_X4_dependsOn a1 a2) (hst : l.stackTraces = false) : vx_Met l yX4_dependsOn wsX4_dependsOn rm_X4_dependsOn (va_Pc [.ref x0, .int a1, .int a2] (PX D [(cI, .int)] sz (W_X4 cI x0 g0 g1 g2 g3 g4 l0 l1 l2 l3 l4 l5 t0 t1 t2 xr xt gn gu gb ga lc lk ln lt ll lr tw tn tt))) (Q_X4_dependsOn D cI x0 g0 g1 g2 g3 g4 l0 l1 l2 l3 l4 l5 t0 t1 t2 xr xt gn gu gb ga lc lk ln lt ll lr tw tn tt a1 a2 (va_A (W_X4 cI x0 g0 g1 g2 g3 g4 l0 l1 l2 l3 l4 l5 t0 t1 t2 xr xt gn gu gb ga lc lk ln lt ll lr tw tn tt) sz)) (X_X4_dependsOn D cI x0 g0 g1 g2 g3 g4 l0 l1 l2 l3 l4 l5 t0 t1 t2 xr xt gn gu gb ga lc lk ln lt ll lr tw tn tt a1 a2 (va_A (W_X4 cI x0 g0 g1 g2 g3 g4 l0 l1 l2 l3 l4 l5 t0 t1 t2 xr xt gn gu gb ga lc lk ln lt ll lr tw tn tt) sz)) 2 12 (va_A (W_X4 cI x0 g0 g1 g2 g3 g4 l0 l1 l2 l3 l4 l5 t0 t1 t2 xr xt gn gu gb ga lc lk ln lt ll lr tw tn tt) sz) := by
  refine vx_ofW (cc := cX4_dependsOn) (maxL := 3) (ret := (some .boolean)) (by decide) rfl ?_
  intro p e s m args below meth c s₁ B hml ht hv
  obtain ⟨rfl, ⟨hsz, hP, hK, hD0, hN⟩, hXB⟩ := hv
  have hx := B.exec
  have hb := B.bytes
  have hr := B.returns
  have hts := atoms_spec (ws := wsX4_dependsOn) B.pre
  have hown : s.vm.findClass RX4 = some m.cls := findClass_of_methodNamed B.named
  have hlocks := B.notSynchronized
  subst hsz
  have hD := hD0.self (sz := s.heap.size)
  generalize hAe : va_A (W_X4 cI x0 g0 g1 g2 g3 g4 l0 l1 l2 l3 l4 l5 t0 t1 t2 xr xt gn gu gb ga lc lk ln lt ll lr tw tn tt) s.heap.size = A at hD hXB ⊢
  have hA : ∀ q : Nat, s.heap.size ≤ q → A q := fun q h => by rw [← hAe]; exact Or.inr h
  have hS : va_S A s.heap s.heap [] := va_S.rf
  have hl := lv_entry ([.ref x0, .int a1, .int a2]) (n := 3) (Nat.le_of_ble_eq_true rfl)
  rw [lg_entry_eq]
  generalize (lg_sl ([.ref x0, .int a1, .int a2]) ++ List.replicate (3 - (lg_sl ([.ref x0, .int a1, .int a2])).length) Slot.unset).toArray = ls at hl ⊢
  have hl : lv_has ls 3 [(0, .ref x0), (1, .int a1), (2, .int a2)] := hl
  have he := f_X4_dependsOn.eq_1 gb a1 a2
  replace hp := Eq.mp (p_X4_dependsOn.eq_1 ..) hp
  refine lv_iload_n hx hb dX4_dependsOn_0 rfl (lv_at hl 1 rfl) ?_
  refine k_xcallv (S := Unit) (px := fun E => f_X4_checkNode a1 = .inl E ∧ (E = eIO)) (wc := ([] : va_W)) (wr := (W_X4 cI x0 g0 g1 g2 g3 g4 l0 l1 l2 l3 l4 l5 t0 t1 t2 xr xt gn gu gb ga lc lk ln lt ll lr tw tn tt)) (w1 := fun u => ([] : va_W)) (fun u => (W_X4 cI x0 g0 g1 g2 g3 g4 l0 l1 l2 l3 l4 l5 t0 t1 t2 xr xt gn gu gb ga lc lk ln lt ll lr tw tn tt)) hP hK hD hN hXB hS hA [] [0, 1, 2, 3, 4, 5, 6, 7, 8, 9, 10, 11, 12, 13, 14] rfl rfl (by decide) (by decide) (by decide) [0, 1, 2, 3, 4, 5, 6, 7, 8, 9, 10, 11, 12, 13, 14] (by decide) (fun _ => rfl) rfl (fun hg => vx_runS (As := [.int a1]) (rest := []) ⟨hx, hb, hml, hown, hts⟩ (c_X4_checkNode l D cI _ a1 hst) (va_cwS 1 hts gX4_dependsOn_X4_checkNode rfl rfl rfl (by decide +kernel) ⟨Nat.le_of_ble_eq_true rfl, Nat.le_of_ble_eq_true rfl⟩) ⟨PX.blind, fun U hU hW => ⟨rfl, hg U hU hW⟩⟩ rfl rfl hl.1 rfl (lv_room (Nat.le_of_ble_eq_true rfl)) dX4_dependsOn_1 ⟨Nat.le_of_ble_eq_true rfl, Nat.le_of_ble_eq_true rfl⟩) (fun E ce q9 H locs hw hP hD hS hc9 hv9 hcl9 => ?_) (fun u H locs hw hP hD hS => ?_)
  · rw [hw.1] at he
    try dsimp only at he
    exact k_out (fun x hx => (ht x hx).elim) hlocks hP hK hD hS hc9 hv9 hcl9 (Nat.le_of_ble_eq_true rfl) (Nat.le_of_ble_eq_true rfl) ⟨he, hw.2⟩
  · rw [hw] at he
    try dsimp only at he
    replace hp := hp  hw
    refine lv_iload_n hx hb dX4_dependsOn_4 rfl (lv_at hl 2 rfl) ?_
    refine k_xcallv (S := Unit) (px := fun E => f_X4_checkNode a2 = .inl E ∧ (E = eIO)) (wc := ([] : va_W)) (wr := (W_X4 cI x0 g0 g1 g2 g3 g4 l0 l1 l2 l3 l4 l5 t0 t1 t2 xr xt gn gu gb ga lc lk ln lt ll lr tw tn tt)) (w1 := fun u => ([] : va_W)) (fun u => (W_X4 cI x0 g0 g1 g2 g3 g4 l0 l1 l2 l3 l4 l5 t0 t1 t2 xr xt gn gu gb ga lc lk ln lt ll lr tw tn tt)) hP hK hD hN hXB hS hA [] [0, 1, 2, 3, 4, 5, 6, 7, 8, 9, 10, 11, 12, 13, 14] rfl rfl (by decide) (by decide) (by decide) [0, 1, 2, 3, 4, 5, 6, 7, 8, 9, 10, 11, 12, 13, 14] (by decide) (fun _ => rfl) rfl (fun hg => vx_runS (As := [.int a2]) (rest := []) ⟨hx, hb, hml, hown, hts⟩ (c_X4_checkNode l D cI _ a2 hst) (va_cwS 1 hts gX4_dependsOn_X4_checkNode rfl rfl rfl (by decide +kernel) ⟨Nat.le_of_ble_eq_true rfl, Nat.le_of_ble_eq_true rfl⟩) ⟨PX.blind, fun U hU hW => ⟨rfl, hg U hU hW⟩⟩ rfl rfl hl.1 rfl (lv_room (Nat.le_of_ble_eq_true rfl)) dX4_dependsOn_5 ⟨Nat.le_of_ble_eq_true rfl, Nat.le_of_ble_eq_true rfl⟩) (fun E ce q9 H locs hw hP hD hS hc9 hv9 hcl9 => ?_) (fun u H locs hw hP hD hS => ?_)
    · rw [hw.1] at he
      try dsimp only at he
      exact k_out (fun x hx => (ht x hx).elim) hlocks hP hK hD hS hc9 hv9 hcl9 (Nat.le_of_ble_eq_true rfl) (Nat.le_of_ble_eq_true rfl) ⟨he, hw.2⟩
    · rw [hw] at he
      try dsimp only at he
      replace hp := hp  hw
      refine lv_aload_n hx hb dX4_dependsOn_8 rfl (lv_at hl 0 rfl) ?_
      refine va_get (D := D) (ci := 4) (v := .ref g0) (C := RX4) (T := TX4) (N := 5) hx hb hts (by decide +kernel) hown hK hP 0 rfl rfl 0 (by decide) (hts (.fieldLink RX4 10 "Alarmgrove" "graph" "LAlarmgrove$Graph;") (by decide +kernel)) (fun _ h9 => h9) rfl dX4_dependsOn_9 ?_
      refine lv_iload_n hx hb dX4_dependsOn_12 rfl (lv_at hl 1 rfl) ?_
      have hq3 := hp.1
      replace hp := hp.2
      refine k_calli (S := Unit) (wc := (W_X1 cI g0 g1 g2 g3 g4 gn gu gb ga)) (wr := ([(x0, .inr (4, [.ref g0, .ref l0, .ref t0, .int xr, .int xt]))] ++ (W_X2 cI l0 l1 l2 l3 l4 l5 lc lk ln lt ll lr) ++ (W_X3 cI t0 t1 t2 tw tn tt))) (w1 := fun u => (W_X1 cI g0 g1 g2 g3 g4 gn gu gb ga)) (fun u => (W_X4 cI x0 g0 g1 g2 g3 g4 l0 l1 l2 l3 l4 l5 t0 t1 t2 xr xt gn gu gb ga lc lk ln lt ll lr tw tn tt)) hP hK hD hN hS hA [1, 2, 3, 4, 5] [0, 6, 7, 8, 9, 10, 11, 12, 13, 14] rfl rfl (by decide) (by decide) (by decide) [0, 10, 11, 12, 13, 14, 1, 2, 3, 4, 5, 6, 7, 8, 9] (by decide) (fun _ => rfl) (fun hg => va_runV (As := [.int a1]) (rest := []) ⟨hx, hb, hml, hown, hts⟩ (c_X1_below l D cI g0 g1 g2 g3 g4 gn gu gb ga _ a1 hq3) (cwV 1 hts gX4_dependsOn_X1_below rfl rfl rfl (by decide +kernel) ⟨Nat.le_of_ble_eq_true rfl, Nat.le_of_ble_eq_true rfl⟩) ⟨PW.blind, va_recv hK hP (ci := 1) (q0 := 1) rfl rfl, fun U hU hW => ⟨rfl, hg U hU hW⟩⟩ rfl rfl hl.1 rfl (lv_room (Nat.le_of_ble_eq_true rfl)) dX4_dependsOn_13 ⟨Nat.le_of_ble_eq_true rfl, Nat.le_of_ble_eq_true rfl⟩) (fun r3 u H locs hw hP hD hS => ?_)
      subst hw
      refine lv_iload_n hx hb dX4_dependsOn_16 rfl (lv_at hl 2 rfl) ?_
      refine k_calli (S := Unit) (wc := ([] : va_W)) (wr := (W_X4 cI x0 g0 g1 g2 g3 g4 l0 l1 l2 l3 l4 l5 t0 t1 t2 xr xt gn gu gb ga lc lk ln lt ll lr tw tn tt)) (w1 := fun u => ([] : va_W)) (fun u => (W_X4 cI x0 g0 g1 g2 g3 g4 l0 l1 l2 l3 l4 l5 t0 t1 t2 xr xt gn gu gb ga lc lk ln lt ll lr tw tn tt)) hP hK hD hN hS hA [] [0, 1, 2, 3, 4, 5, 6, 7, 8, 9, 10, 11, 12, 13, 14] rfl rfl (by decide) (by decide) (by decide) [0, 1, 2, 3, 4, 5, 6, 7, 8, 9, 10, 11, 12, 13, 14] (by decide) (fun _ => rfl) (fun hg => va_runS (As := [.int (f_X1_below gb a1), .int a2]) (rest := []) ⟨hx, hb, hml, hown, hts⟩ (c_X4_has l D cI _ (f_X1_below gb a1) a2) (va_cwS 2 hts gX4_dependsOn_X4_has rfl rfl rfl (by decide +kernel) ⟨Nat.le_of_ble_eq_true rfl, Nat.le_of_ble_eq_true rfl⟩) ⟨PW.blind, fun U hU hW => ⟨rfl, hg U hU hW⟩⟩ rfl rfl hl.1 rfl (lv_room (Nat.le_of_ble_eq_true rfl)) dX4_dependsOn_17 ⟨Nat.le_of_ble_eq_true rfl, Nat.le_of_ble_eq_true rfl⟩) (fun r4 u H locs hw hP hD hS => ?_)
      obtain ⟨hw, hb4⟩ := hw
      subst hw
      refine vx_ret ?_
      exact W.zret (ty := .boolean) (v := (f_X4_has (f_X1_below gb a1) a2)) hx hb hr (by rcases hb4 with h9 | h9 <;> rw [h9] <;> rfl) (fun t ht hW => ⟨⟨(f_X4_has (f_X1_below gb a1) a2), (), rfl, ⟨he, hb4⟩, by rw [ht]; exact hP, va_K.moved hW.alike hK, hD⟩, hS.F ht⟩) hS.2.2 dX4_dependsOn_20
abbrev rm_X4_height : Room := { frames := 7, cells := 1, slots := 6, locals := 102 }
abbrev Q_X4_height (D : va_G) (cI : ClassId) (x0 g0 g1 g2 g3 g4 l0 l1 l2 l3 l4 l5 t0 t1 t2 : Nat) (xr : Int32) (xt : Int32) (gn : AA) (gu : AA) (gb : AA) (ga : AA) (lc : Int32) (lk : AA) (ln : AA) (lt : AA) (ll : AA) (lr : AA) (tw : Int32) (tn : AA) (tt : AA) (a1 : Int32) (A : Nat → Prop) : Array Value → State → Outcome → State → Prop := va_Qi (S := Unit) (fun r u => f_X4_height gn a1 = .inr r) (fun u t => QW D [(cI, .int)] A (W_X4 cI x0 g0 g1 g2 g3 g4 l0 l1 l2 l3 l4 l5 t0 t1 t2 xr xt gn gu gb ga lc lk ln lt ll lr tw tn tt) t) A
abbrev X_X4_height (D : va_G) (cI : ClassId) (x0 g0 g1 g2 g3 g4 l0 l1 l2 l3 l4 l5 t0 t1 t2 : Nat) (xr : Int32) (xt : Int32) (gn : AA) (gu : AA) (gb : AA) (ga : AA) (lc : Int32) (lk : AA) (ln : AA) (lt : AA) (ll : AA) (lr : AA) (tw : Int32) (tn : AA) (tt : AA) (a1 : Int32) (A : Nat → Prop) : String → State → State → Prop := vx_X (fun _ : Unit => True) (fun E _ t => (f_X4_height gn a1 = .inl E ∧ (E = eIO)) ∧ QW D [(cI, .int)] A (W_X4 cI x0 g0 g1 g2 g3 g4 l0 l1 l2 l3 l4 l5 t0 t1 t2 xr xt gn gu gb ga lc lk ln lt ll lr tw tn tt) t) A
set_option maxHeartbeats 4000000 in
set_option maxRecDepth 100000 in
theorem c_X4_height (l : Launch)  (D : va_G) (cI : ClassId) (x0 g0 g1 g2 g3 g4 l0 l1 l2 l3 l4 l5 t0 t1 t2 : Nat) (xr : Int32) (xt : Int32) (gn : AA) (gu : AA) (gb : AA) (ga : AA) (lc : Int32) (lk : AA) (ln : AA) (lt : AA) (ll : AA) (lr : AA) (tw : Int32) (tn : AA) (tt : AA) (sz : Nat) (a1 : Int32) (hp : p_X4_height gn a1) (hst : l.stackTraces = false) : vx_Met l yX4_height wsX4_height rm_X4_height (va_Pc [.ref x0, .int a1] (PX D [(cI, .int)] sz (W_X4 cI x0 g0 g1 g2 g3 g4 l0 l1 l2 l3 l4 l5 t0 t1 t2 xr xt gn gu gb ga lc lk ln lt ll lr tw tn tt))) (Q_X4_height D cI x0 g0 g1 g2 g3 g4 l0 l1 l2 l3 l4 l5 t0 t1 t2 xr xt gn gu gb ga lc lk ln lt ll lr tw tn tt a1 (va_A (W_X4 cI x0 g0 g1 g2 g3 g4 l0 l1 l2 l3 l4 l5 t0 t1 t2 xr xt gn gu gb ga lc lk ln lt ll lr tw tn tt) sz)) (X_X4_height D cI x0 g0 g1 g2 g3 g4 l0 l1 l2 l3 l4 l5 t0 t1 t2 xr xt gn gu gb ga lc lk ln lt ll lr tw tn tt a1 (va_A (W_X4 cI x0 g0 g1 g2 g3 g4 l0 l1 l2 l3 l4 l5 t0 t1 t2 xr xt gn gu gb ga lc lk ln lt ll lr tw tn tt) sz)) 1 6 (va_A (W_X4 cI x0 g0 g1 g2 g3 g4 l0 l1 l2 l3 l4 l5 t0 t1 t2 xr xt gn gu gb ga lc lk ln lt ll lr tw tn tt) sz) := by
  refine vx_ofW (cc := cX4_height) (maxL := 2) (ret := (some .int)) (by decide) rfl ?_
  intro p e s m args below meth c s₁ B hml ht hv
  obtain ⟨rfl, ⟨hsz, hP, hK, hD0, hN⟩, hXB⟩ := hv
  have hx := B.exec
  have hb := B.bytes
  have hr := B.returns
  have hts := atoms_spec (ws := wsX4_height) B.pre
  have hown : s.vm.findClass RX4 = some m.cls := findClass_of_methodNamed B.named
  have hlocks := B.notSynchronized
  subst hsz
  have hD := hD0.self (sz := s.heap.size)
  generalize hAe : va_A (W_X4 cI x0 g0 g1 g2 g3 g4 l0 l1 l2 l3 l4 l5 t0 t1 t2 xr xt gn gu gb ga lc lk ln lt ll lr tw tn tt) s.heap.size = A at hD hXB ⊢
  have hA : ∀ q : Nat, s.heap.size ≤ q → A q := fun q h => by rw [← hAe]; exact Or.inr h
  have hS : va_S A s.heap s.heap [] := va_S.rf
  have hl := lv_entry ([.ref x0, .int a1]) (n := 2) (Nat.le_of_ble_eq_true rfl)
  rw [lg_entry_eq]
  generalize (lg_sl ([.ref x0, .int a1]) ++ List.replicate (2 - (lg_sl ([.ref x0, .int a1])).length) Slot.unset).toArray = ls at hl ⊢
  have hl : lv_has ls 2 [(0, .ref x0), (1, .int a1)] := hl
  have he := f_X4_height.eq_1 gn a1
  replace hp := Eq.mp (p_X4_height.eq_1 ..) hp
  refine lv_iload_n hx hb dX4_height_0 rfl (lv_at hl 1 rfl) ?_
  refine k_xcallv (S := Unit) (px := fun E => f_X4_checkNode a1 = .inl E ∧ (E = eIO)) (wc := ([] : va_W)) (wr := (W_X4 cI x0 g0 g1 g2 g3 g4 l0 l1 l2 l3 l4 l5 t0 t1 t2 xr xt gn gu gb ga lc lk ln lt ll lr tw tn tt)) (w1 := fun u => ([] : va_W)) (fun u => (W_X4 cI x0 g0 g1 g2 g3 g4 l0 l1 l2 l3 l4 l5 t0 t1 t2 xr xt gn gu gb ga lc lk ln lt ll lr tw tn tt)) hP hK hD hN hXB hS hA [] [0, 1, 2, 3, 4, 5, 6, 7, 8, 9, 10, 11, 12, 13, 14] rfl rfl (by decide) (by decide) (by decide) [0, 1, 2, 3, 4, 5, 6, 7, 8, 9, 10, 11, 12, 13, 14] (by decide) (fun _ => rfl) rfl (fun hg => vx_runS (As := [.int a1]) (rest := []) ⟨hx, hb, hml, hown, hts⟩ (c_X4_checkNode l D cI _ a1 hst) (va_cwS 1 hts gX4_height_X4_checkNode rfl rfl rfl (by decide +kernel) ⟨Nat.le_of_ble_eq_true rfl, Nat.le_of_ble_eq_true rfl⟩) ⟨PX.blind, fun U hU hW => ⟨rfl, hg U hU hW⟩⟩ rfl rfl hl.1 rfl (lv_room (Nat.le_of_ble_eq_true rfl)) dX4_height_1 ⟨Nat.le_of_ble_eq_true rfl, Nat.le_of_ble_eq_true rfl⟩) (fun E ce q9 H locs hw hP hD hS hc9 hv9 hcl9 => ?_) (fun u H locs hw hP hD hS => ?_)
  · rw [hw.1] at he
    try dsimp only at he
    exact k_out (fun x hx => (ht x hx).elim) hlocks hP hK hD hS hc9 hv9 hcl9 (Nat.le_of_ble_eq_true rfl) (Nat.le_of_ble_eq_true rfl) ⟨he, hw.2⟩
  · rw [hw] at he
    try dsimp only at he
    replace hp := hp  hw
    refine lv_aload_n hx hb dX4_height_4 rfl (lv_at hl 0 rfl) ?_
    refine va_get (D := D) (ci := 4) (v := .ref g0) (C := RX4) (T := TX4) (N := 5) hx hb hts (by decide +kernel) hown hK hP 0 rfl rfl 0 (by decide) (hts (.fieldLink RX4 10 "Alarmgrove" "graph" "LAlarmgrove$Graph;") (by decide +kernel)) (fun _ h9 => h9) rfl dX4_height_5 ?_
    refine lv_iload_n hx hb dX4_height_8 rfl (lv_at hl 1 rfl) ?_
    have hq2 := hp.1
    replace hp := hp.2
    refine k_calli (S := Unit) (wc := (W_X1 cI g0 g1 g2 g3 g4 gn gu gb ga)) (wr := ([(x0, .inr (4, [.ref g0, .ref l0, .ref t0, .int xr, .int xt]))] ++ (W_X2 cI l0 l1 l2 l3 l4 l5 lc lk ln lt ll lr) ++ (W_X3 cI t0 t1 t2 tw tn tt))) (w1 := fun u => (W_X1 cI g0 g1 g2 g3 g4 gn gu gb ga)) (fun u => (W_X4 cI x0 g0 g1 g2 g3 g4 l0 l1 l2 l3 l4 l5 t0 t1 t2 xr xt gn gu gb ga lc lk ln lt ll lr tw tn tt)) hP hK hD hN hS hA [1, 2, 3, 4, 5] [0, 6, 7, 8, 9, 10, 11, 12, 13, 14] rfl rfl (by decide) (by decide) (by decide) [0, 10, 11, 12, 13, 14, 1, 2, 3, 4, 5, 6, 7, 8, 9] (by decide) (fun _ => rfl) (fun hg => va_runV (As := [.int a1]) (rest := []) ⟨hx, hb, hml, hown, hts⟩ (c_X1_longestWayDown l D cI g0 g1 g2 g3 g4 gn gu gb ga _ a1 hq2) (cwV 1 hts gX4_height_X1_longestWayDown rfl rfl rfl (by decide +kernel) ⟨Nat.le_of_ble_eq_true rfl, Nat.le_of_ble_eq_true rfl⟩) ⟨PW.blind, va_recv hK hP (ci := 1) (q0 := 1) rfl rfl, fun U hU hW => ⟨rfl, hg U hU hW⟩⟩ rfl rfl hl.1 rfl (lv_room (Nat.le_of_ble_eq_true rfl)) dX4_height_9 ⟨Nat.le_of_ble_eq_true rfl, Nat.le_of_ble_eq_true rfl⟩) (fun r2 u H locs hw hP hD hS => ?_)
    subst hw
    refine vx_ret ?_
    exact W.iret (v := (f_X1_longestWayDown gn a1)) hx hb hr (fun t ht hW => ⟨⟨(f_X1_longestWayDown gn a1), (), rfl, he, by rw [ht]; exact hP, va_K.moved hW.alike hK, hD⟩, hS.F ht⟩) hS.2.2 dX4_height_12
abbrev rm_X4_tick : Room := { frames := 7, cells := 1, slots := 6, locals := 103 }
abbrev Q_X4_tick (D : va_G) (cI : ClassId) (x0 g0 g1 g2 g3 g4 l0 l1 l2 l3 l4 l5 t0 t1 t2 : Nat) (xr : Int32) (xt : Int32) (gn : AA) (gu : AA) (gb : AA) (ga : AA) (lc : Int32) (lk : AA) (ln : AA) (lt : AA) (ll : AA) (lr : AA) (tw : Int32) (tn : AA) (tt : AA) (a1 : Int32) (A : Nat → Prop) : Array Value → State → Outcome → State → Prop := va_Qi (S := Int32) (fun r u => f_X4_tick xt a1 = .inr (r, u)) (fun u t => QW D [(cI, .int)] A (W_X4 cI x0 g0 g1 g2 g3 g4 l0 l1 l2 l3 l4 l5 t0 t1 t2 xr u gn gu gb ga lc lk ln lt ll lr tw tn tt) t) A
abbrev X_X4_tick (D : va_G) (cI : ClassId) (x0 g0 g1 g2 g3 g4 l0 l1 l2 l3 l4 l5 t0 t1 t2 : Nat) (xr : Int32) (xt : Int32) (gn : AA) (gu : AA) (gb : AA) (ga : AA) (lc : Int32) (lk : AA) (ln : AA) (lt : AA) (ll : AA) (lr : AA) (tw : Int32) (tn : AA) (tt : AA) (a1 : Int32) (A : Nat → Prop) : String → State → State → Prop := vx_X (fun _ : Unit => True) (fun E _ t => (f_X4_tick xt a1 = .inl E ∧ (E = eIA)) ∧ QW D [(cI, .int)] A (W_X4 cI x0 g0 g1 g2 g3 g4 l0 l1 l2 l3 l4 l5 t0 t1 t2 xr xt gn gu gb ga lc lk ln lt ll lr tw tn tt) t) A
set_option maxHeartbeats 4000000 in
set_option maxRecDepth 100000 in
theorem c_X4_tick (l : Launch)  (D : va_G) (cI : ClassId) (x0 g0 g1 g2 g3 g4 l0 l1 l2 l3 l4 l5 t0 t1 t2 : Nat) (xr : Int32) (xt : Int32) (gn : AA) (gu : AA) (gb : AA) (ga : AA) (lc : Int32) (lk : AA) (ln : AA) (lt : AA) (ll : AA) (lr : AA) (tw : Int32) (tn : AA) (tt : AA) (sz : Nat) (a1 : Int32) (hst : l.stackTraces = false) : vx_Met l yX4_tick wsX4_tick rm_X4_tick (va_Pc [.ref x0, .int a1] (PX D [(cI, .int)] sz (W_X4 cI x0 g0 g1 g2 g3 g4 l0 l1 l2 l3 l4 l5 t0 t1 t2 xr xt gn gu gb ga lc lk ln lt ll lr tw tn tt))) (Q_X4_tick D cI x0 g0 g1 g2 g3 g4 l0 l1 l2 l3 l4 l5 t0 t1 t2 xr xt gn gu gb ga lc lk ln lt ll lr tw tn tt a1 (va_A (W_X4 cI x0 g0 g1 g2 g3 g4 l0 l1 l2 l3 l4 l5 t0 t1 t2 xr xt gn gu gb ga lc lk ln lt ll lr tw tn tt) sz)) (X_X4_tick D cI x0 g0 g1 g2 g3 g4 l0 l1 l2 l3 l4 l5 t0 t1 t2 xr xt gn gu gb ga lc lk ln lt ll lr tw tn tt a1 (va_A (W_X4 cI x0 g0 g1 g2 g3 g4 l0 l1 l2 l3 l4 l5 t0 t1 t2 xr xt gn gu gb ga lc lk ln lt ll lr tw tn tt) sz)) 1 6 (va_A (W_X4 cI x0 g0 g1 g2 g3 g4 l0 l1 l2 l3 l4 l5 t0 t1 t2 xr xt gn gu gb ga lc lk ln lt ll lr tw tn tt) sz) := by
  refine vx_ofW (cc := cX4_tick) (maxL := 2) (ret := (some .int)) (by decide) rfl ?_
  intro p e s m args below meth c s₁ B hml ht hv
  obtain ⟨rfl, ⟨hsz, hP, hK, hD0, hN⟩, hXB⟩ := hv
  have hx := B.exec
  have hb := B.bytes
  have hr := B.returns
  have hts := atoms_spec (ws := wsX4_tick) B.pre
  have hown : s.vm.findClass RX4 = some m.cls := findClass_of_methodNamed B.named
  have hlocks := B.notSynchronized
  subst hsz
  have hD := hD0.self (sz := s.heap.size)
  generalize hAe : va_A (W_X4 cI x0 g0 g1 g2 g3 g4 l0 l1 l2 l3 l4 l5 t0 t1 t2 xr xt gn gu gb ga lc lk ln lt ll lr tw tn tt) s.heap.size = A at hD hXB ⊢
  have hA : ∀ q : Nat, s.heap.size ≤ q → A q := fun q h => by rw [← hAe]; exact Or.inr h
  have hS : va_S A s.heap s.heap [] := va_S.rf
  have hl := lv_entry ([.ref x0, .int a1]) (n := 2) (Nat.le_of_ble_eq_true rfl)
  rw [lg_entry_eq]
  generalize (lg_sl ([.ref x0, .int a1]) ++ List.replicate (2 - (lg_sl ([.ref x0, .int a1])).length) Slot.unset).toArray = ls at hl ⊢
  have hl : lv_has ls 2 [(0, .ref x0), (1, .int a1)] := hl
  have he := f_X4_tick.eq_1 xt a1
  refine lv_iload_n hx hb dX4_tick_0 rfl (lv_at hl 1 rfl) ?_
  refine lv_bipush (v := 100) hx hb dX4_tick_1 (by decide) ?_
  refine k_xcallv (S := Unit) (px := fun E => f_X4_checkTicks a1 (100 : Int32) = .inl E ∧ (E = eIA)) (wc := ([] : va_W)) (wr := (W_X4 cI x0 g0 g1 g2 g3 g4 l0 l1 l2 l3 l4 l5 t0 t1 t2 xr xt gn gu gb ga lc lk ln lt ll lr tw tn tt)) (w1 := fun u => ([] : va_W)) (fun u => (W_X4 cI x0 g0 g1 g2 g3 g4 l0 l1 l2 l3 l4 l5 t0 t1 t2 xr xt gn gu gb ga lc lk ln lt ll lr tw tn tt)) hP hK hD hN hXB hS hA [] [0, 1, 2, 3, 4, 5, 6, 7, 8, 9, 10, 11, 12, 13, 14] rfl rfl (by decide) (by decide) (by decide) [0, 1, 2, 3, 4, 5, 6, 7, 8, 9, 10, 11, 12, 13, 14] (by decide) (fun _ => rfl) rfl (fun hg => vx_runS (As := [.int a1, .int 100]) (rest := []) ⟨hx, hb, hml, hown, hts⟩ (c_X4_checkTicks l D cI _ a1 100 hst) (va_cwS 2 hts gX4_tick_X4_checkTicks rfl rfl rfl (by decide +kernel) ⟨Nat.le_of_ble_eq_true rfl, Nat.le_of_ble_eq_true rfl⟩) ⟨PX.blind, fun U hU hW => ⟨rfl, hg U hU hW⟩⟩ rfl rfl hl.1 rfl (lv_room (Nat.le_of_ble_eq_true rfl)) dX4_tick_3 ⟨Nat.le_of_ble_eq_true rfl, Nat.le_of_ble_eq_true rfl⟩) (fun E ce q9 H locs hw hP hD hS hc9 hv9 hcl9 => ?_) (fun u H locs hw hP hD hS => ?_)
  · rw [hw.1] at he
    try dsimp only at he
    exact k_out (fun x hx => (ht x hx).elim) hlocks hP hK hD hS hc9 hv9 hcl9 (Nat.le_of_ble_eq_true rfl) (Nat.le_of_ble_eq_true rfl) ⟨he, hw.2⟩
  · rw [hw] at he
    try dsimp only at he
    refine lv_aload_n hx hb dX4_tick_6 rfl (lv_at hl 0 rfl) ?_
    refine lv_dup hx hb dX4_tick_7 rfl ?_
    refine va_get (D := D) (ci := 4) (v := .int xt) (C := RX4) (T := TX4) (N := 5) hx hb hts (by decide +kernel) hown hK hP 0 rfl rfl 4 (by decide) (hts (.fieldLink RX4 34 "Alarmgrove" "time" "I") (by decide +kernel)) (fun _ h9 => h9) rfl dX4_tick_8 ?_
    refine lv_iload_n hx hb dX4_tick_11 rfl (lv_at hl 1 rfl) ?_
    refine lv_iadd hx hb dX4_tick_12 ?_
    refine va_put (D := D) (ci := 4) (v := .int (xt + a1)) (ty := .int) (C := RX4) (T := TX4) (N := 5) hx hb hts (by decide +kernel) tyX4 tyX4_ok nmX4 hown hK hP hD hS 0 rfl rfl 4 (by decide) (hts (.fieldLink RX4 34 "Alarmgrove" "time" "I") (by decide +kernel)) (fun _ h9 => h9) rfl (by decide +kernel) rfl rfl (Nat.le_of_ble_eq_true rfl) dX4_tick_13 (fun H locs hP hD hS => ?_)
    have hP : va_P D vwCl (W_X4 cI x0 g0 g1 g2 g3 g4 l0 l1 l2 l3 l4 l5 t0 t1 t2 xr (xt + a1) gn gu gb ga lc lk ln lt ll lr tw tn tt) H := hP
    have hD : va_D A (W_X4 cI x0 g0 g1 g2 g3 g4 l0 l1 l2 l3 l4 l5 t0 t1 t2 xr (xt + a1) gn gu gb ga lc lk ln lt ll lr tw tn tt) := hD
    refine lv_aload_n hx hb dX4_tick_16 rfl (lv_at hl 0 rfl) ?_
    refine va_get (D := D) (ci := 4) (v := .int (xt + a1)) (C := RX4) (T := TX4) (N := 5) hx hb hts (by decide +kernel) hown hK hP 0 rfl rfl 4 (by decide) (hts (.fieldLink RX4 34 "Alarmgrove" "time" "I") (by decide +kernel)) (fun _ h9 => h9) rfl dX4_tick_17 ?_
    refine vx_ret ?_
    exact W.iret (v := (xt + a1)) hx hb hr (fun t ht hW => ⟨⟨(xt + a1), (xt + a1), rfl, he, by rw [ht]; exact hP, va_K.moved hW.alike hK, hD⟩, hS.F ht⟩) hS.2.2 dX4_tick_20
abbrev rm_X4_now : Room := { frames := 0, cells := 0, slots := 0, locals := 0 }
abbrev Q_X4_now (D : va_G) (cI : ClassId) (x0 g0 g1 g2 g3 g4 l0 l1 l2 l3 l4 l5 t0 t1 t2 : Nat) (xr : Int32) (xt : Int32) (gn : AA) (gu : AA) (gb : AA) (ga : AA) (lc : Int32) (lk : AA) (ln : AA) (lt : AA) (ll : AA) (lr : AA) (tw : Int32) (tn : AA) (tt : AA) (A : Nat → Prop) : Array Value → State → Outcome → State → Prop := va_Qi (S := Unit) (fun r u => f_X4_now xt = r) (fun u t => QW D [(cI, .int)] A (W_X4 cI x0 g0 g1 g2 g3 g4 l0 l1 l2 l3 l4 l5 t0 t1 t2 xr xt gn gu gb ga lc lk ln lt ll lr tw tn tt) t) A
set_option maxHeartbeats 4000000 in
set_option maxRecDepth 100000 in
theorem c_X4_now (l : Launch)  (D : va_G) (cI : ClassId) (x0 g0 g1 g2 g3 g4 l0 l1 l2 l3 l4 l5 t0 t1 t2 : Nat) (xr : Int32) (xt : Int32) (gn : AA) (gu : AA) (gb : AA) (ga : AA) (lc : Int32) (lk : AA) (ln : AA) (lt : AA) (ll : AA) (lr : AA) (tw : Int32) (tn : AA) (tt : AA) (sz : Nat) : Met l yX4_now wsX4_now rm_X4_now (va_Pc [.ref x0] (PW D [(cI, .int)] sz (W_X4 cI x0 g0 g1 g2 g3 g4 l0 l1 l2 l3 l4 l5 t0 t1 t2 xr xt gn gu gb ga lc lk ln lt ll lr tw tn tt))) (Q_X4_now D cI x0 g0 g1 g2 g3 g4 l0 l1 l2 l3 l4 l5 t0 t1 t2 xr xt gn gu gb ga lc lk ln lt ll lr tw tn tt (va_A (W_X4 cI x0 g0 g1 g2 g3 g4 l0 l1 l2 l3 l4 l5 t0 t1 t2 xr xt gn gu gb ga lc lk ln lt ll lr tw tn tt) sz)) 0 0 (va_A (W_X4 cI x0 g0 g1 g2 g3 g4 l0 l1 l2 l3 l4 l5 t0 t1 t2 xr xt gn gu gb ga lc lk ln lt ll lr tw tn tt) sz) := by
  refine Met.ofW (cc := cX4_now) (maxL := 1) (ret := (some .int)) (by decide) rfl ?_
  intro p e s m args below meth c s₁ B hml hv
  obtain ⟨rfl, hsz, hP, hK, hD0, hN⟩ := hv
  have hx := B.exec
  have hb := B.bytes
  have hr := B.returns
  have hts := atoms_spec (ws := wsX4_now) B.pre
  have hown : s.vm.findClass RX4 = some m.cls := findClass_of_methodNamed B.named
  have hlocks := B.notSynchronized
  subst hsz
  have hD := hD0.self (sz := s.heap.size)
  generalize hAe : va_A (W_X4 cI x0 g0 g1 g2 g3 g4 l0 l1 l2 l3 l4 l5 t0 t1 t2 xr xt gn gu gb ga lc lk ln lt ll lr tw tn tt) s.heap.size = A at hD ⊢
  have hA : ∀ q : Nat, s.heap.size ≤ q → A q := fun q h => by rw [← hAe]; exact Or.inr h
  have hS : va_S A s.heap s.heap [] := va_S.rf
  have hl := lv_entry ([.ref x0]) (n := 1) (Nat.le_of_ble_eq_true rfl)
  rw [lg_entry_eq]
  generalize (lg_sl ([.ref x0]) ++ List.replicate (1 - (lg_sl ([.ref x0])).length) Slot.unset).toArray = ls at hl ⊢
  have hl : lv_has ls 1 [(0, .ref x0)] := hl
  have he := f_X4_now.eq_1 xt
  refine lv_aload_n hx hb dX4_now_0 rfl (lv_at hl 0 rfl) ?_
  refine va_get (D := D) (ci := 4) (v := .int xt) (C := RX4) (T := TX4) (N := 5) hx hb hts (by decide +kernel) hown hK hP 0 rfl rfl 4 (by decide) (hts (.fieldLink RX4 34 "Alarmgrove" "time" "I") (by decide +kernel)) (fun _ h9 => h9) rfl dX4_now_1 ?_
  exact W.iret (v := xt) hx hb hr (fun t ht hW => ⟨⟨xt, (), rfl, he, by rw [ht]; exact hP, va_K.moved hW.alike hK, hD⟩, hS.F ht⟩) hS.2.2 dX4_now_4
abbrev rm_X4_raise : Room := { frames := 7, cells := 2, slots := 12, locals := 103 }
abbrev Q_X4_raise (D : va_G) (cI : ClassId) (x0 g0 g1 g2 g3 g4 l0 l1 l2 l3 l4 l5 t0 t1 t2 : Nat) (xr : Int32) (xt : Int32) (gn : AA) (gu : AA) (gb : AA) (ga : AA) (lc : Int32) (lk : AA) (ln : AA) (lt : AA) (ll : AA) (lr : AA) (tw : Int32) (tn : AA) (tt : AA) (a1 : Int32) (A : Nat → Prop) : Array Value → State → Outcome → State → Prop := va_Qi (S := Int32 × Int32 × AA × AA × AA × AA × AA × Int32 × AA × AA) (fun r u => f_X4_raise xr xt gb ga lc lk ln lt ll lr tw tn tt a1 = .inr (r, u)) (fun u t => QW D [(cI, .int)] A (W_X4 cI x0 g0 g1 g2 g3 g4 l0 l1 l2 l3 l4 l5 t0 t1 t2 u.1 xt gn gu gb ga u.2.1 u.2.2.1 u.2.2.2.1 u.2.2.2.2.1 u.2.2.2.2.2.1 u.2.2.2.2.2.2.1 u.2.2.2.2.2.2.2.1 u.2.2.2.2.2.2.2.2.1 u.2.2.2.2.2.2.2.2.2) t) A
abbrev X_X4_raise (D : va_G) (cI : ClassId) (x0 g0 g1 g2 g3 g4 l0 l1 l2 l3 l4 l5 t0 t1 t2 : Nat) (xr : Int32) (xt : Int32) (gn : AA) (gu : AA) (gb : AA) (ga : AA) (lc : Int32) (lk : AA) (ln : AA) (lt : AA) (ll : AA) (lr : AA) (tw : Int32) (tn : AA) (tt : AA) (a1 : Int32) (A : Nat → Prop) : String → State → State → Prop := vx_X (fun _ : Unit => True) (fun E _ t => (f_X4_raise xr xt gb ga lc lk ln lt ll lr tw tn tt a1 = .inl E ∧ (E = eIO ∨ E = eIS)) ∧ QW D [(cI, .int)] A (W_X4 cI x0 g0 g1 g2 g3 g4 l0 l1 l2 l3 l4 l5 t0 t1 t2 xr xt gn gu gb ga lc lk ln lt ll lr tw tn tt) t) A
set_option maxHeartbeats 4000000 in
set_option maxRecDepth 100000 in
theorem c_X4_raise (l : Launch)  (D : va_G) (cI : ClassId) (x0 g0 g1 g2 g3 g4 l0 l1 l2 l3 l4 l5 t0 t1 t2 : Nat) (xr : Int32) (xt : Int32) (gn : AA) (gu : AA) (gb : AA) (ga : AA) (lc : Int32) (lk : AA) (ln : AA) (lt : AA) (ll : AA) (lr : AA) (tw : Int32) (tn : AA) (tt : AA) (sz : Nat) (a1 : Int32) (hp : p_X4_raise xr xt gb ga lc lk ln lt ll lr tw tn tt a1) (hst : l.stackTraces = false) : vx_Met l yX4_raise wsX4_raise rm_X4_raise (va_Pc [.ref x0, .int a1] (PX D [(cI, .int)] sz (W_X4 cI x0 g0 g1 g2 g3 g4 l0 l1 l2 l3 l4 l5 t0 t1 t2 xr xt gn gu gb ga lc lk ln lt ll lr tw tn tt))) (Q_X4_raise D cI x0 g0 g1 g2 g3 g4 l0 l1 l2 l3 l4 l5 t0 t1 t2 xr xt gn gu gb ga lc lk ln lt ll lr tw tn tt a1 (va_A (W_X4 cI x0 g0 g1 g2 g3 g4 l0 l1 l2 l3 l4 l5 t0 t1 t2 xr xt gn gu gb ga lc lk ln lt ll lr tw tn tt) sz)) (X_X4_raise D cI x0 g0 g1 g2 g3 g4 l0 l1 l2 l3 l4 l5 t0 t1 t2 xr xt gn gu gb ga lc lk ln lt ll lr tw tn tt a1 (va_A (W_X4 cI x0 g0 g1 g2 g3 g4 l0 l1 l2 l3 l4 l5 t0 t1 t2 xr xt gn gu gb ga lc lk ln lt ll lr tw tn tt) sz)) 2 12 (va_A (W_X4 cI x0 g0 g1 g2 g3 g4 l0 l1 l2 l3 l4 l5 t0 t1 t2 xr xt gn gu gb ga lc lk ln lt ll lr tw tn tt) sz) := by
  refine vx_ofW (cc := cX4_raise) (maxL := 3) (ret := (some .int)) (by decide) rfl ?_
  intro p e s m args below meth c s₁ B hml ht hv
  obtain ⟨rfl, ⟨hsz, hP, hK, hD0, hN⟩, hXB⟩ := hv
  have hx := B.exec
  have hb := B.bytes
  have hr := B.returns
  have hts := atoms_spec (ws := wsX4_raise) B.pre
  have hown : s.vm.findClass RX4 = some m.cls := findClass_of_methodNamed B.named
  have hlocks := B.notSynchronized
  subst hsz
  have hD := hD0.self (sz := s.heap.size)
  generalize hAe : va_A (W_X4 cI x0 g0 g1 g2 g3 g4 l0 l1 l2 l3 l4 l5 t0 t1 t2 xr xt gn gu gb ga lc lk ln lt ll lr tw tn tt) s.heap.size = A at hD hXB ⊢
  have hA : ∀ q : Nat, s.heap.size ≤ q → A q := fun q h => by rw [← hAe]; exact Or.inr h
  have hS : va_S A s.heap s.heap [] := va_S.rf
  have hl := lv_entry ([.ref x0, .int a1]) (n := 3) (Nat.le_of_ble_eq_true rfl)
  rw [lg_entry_eq]
  generalize (lg_sl ([.ref x0, .int a1]) ++ List.replicate (3 - (lg_sl ([.ref x0, .int a1])).length) Slot.unset).toArray = ls at hl ⊢
  have hl : lv_has ls 3 [(0, .ref x0), (1, .int a1)] := hl
  have he := f_X4_raise.eq_1 xr xt gb ga lc lk ln lt ll lr tw tn tt a1
  replace hp := Eq.mp (p_X4_raise.eq_1 ..) hp
  refine lv_iload_n hx hb dX4_raise_0 rfl (lv_at hl 1 rfl) ?_
  refine k_xcallv (S := Unit) (px := fun E => f_X4_checkNode a1 = .inl E ∧ (E = eIO)) (wc := ([] : va_W)) (wr := (W_X4 cI x0 g0 g1 g2 g3 g4 l0 l1 l2 l3 l4 l5 t0 t1 t2 xr xt gn gu gb ga lc lk ln lt ll lr tw tn tt)) (w1 := fun u => ([] : va_W)) (fun u => (W_X4 cI x0 g0 g1 g2 g3 g4 l0 l1 l2 l3 l4 l5 t0 t1 t2 xr xt gn gu gb ga lc lk ln lt ll lr tw tn tt)) hP hK hD hN hXB hS hA [] [0, 1, 2, 3, 4, 5, 6, 7, 8, 9, 10, 11, 12, 13, 14] rfl rfl (by decide) (by decide) (by decide) [0, 1, 2, 3, 4, 5, 6, 7, 8, 9, 10, 11, 12, 13, 14] (by decide) (fun _ => rfl) rfl (fun hg => vx_runS (As := [.int a1]) (rest := []) ⟨hx, hb, hml, hown, hts⟩ (c_X4_checkNode l D cI _ a1 hst) (va_cwS 1 hts gX4_raise_X4_checkNode rfl rfl rfl (by decide +kernel) ⟨Nat.le_of_ble_eq_true rfl, Nat.le_of_ble_eq_true rfl⟩) ⟨PX.blind, fun U hU hW => ⟨rfl, hg U hU hW⟩⟩ rfl rfl hl.1 rfl (lv_room (Nat.le_of_ble_eq_true rfl)) dX4_raise_1 ⟨Nat.le_of_ble_eq_true rfl, Nat.le_of_ble_eq_true rfl⟩) (fun E ce q9 H locs hw hP hD hS hc9 hv9 hcl9 => ?_) (fun u H locs hw hP hD hS => ?_)
  · rw [hw.1] at he
    try dsimp only at he
    exact k_out (fun x hx => (ht x hx).elim) hlocks hP hK hD hS hc9 hv9 hcl9 (Nat.le_of_ble_eq_true rfl) (Nat.le_of_ble_eq_true rfl) ⟨he, Or.inl hw.2⟩
  · rw [hw] at he
    try dsimp only at he
    replace hp := hp  hw
    refine lv_aload_n hx hb dX4_raise_4 rfl (lv_at hl 0 rfl) ?_
    refine lv_aload_n hx hb dX4_raise_5 rfl (lv_at hl 0 rfl) ?_
    refine va_get (D := D) (ci := 4) (v := .int xr) (C := RX4) (T := TX4) (N := 5) hx hb hts (by decide +kernel) hown hK hP 0 rfl rfl 3 (by decide) (hts (.fieldLink RX4 30 "Alarmgrove" "raised" "I") (by decide +kernel)) (fun _ h9 => h9) rfl dX4_raise_6 ?_
    refine lv_iload_n hx hb dX4_raise_9 rfl (lv_at hl 1 rfl) ?_
    refine k_calli (S := Unit) (wc := ([] : va_W)) (wr := (W_X4 cI x0 g0 g1 g2 g3 g4 l0 l1 l2 l3 l4 l5 t0 t1 t2 xr xt gn gu gb ga lc lk ln lt ll lr tw tn tt)) (w1 := fun u => ([] : va_W)) (fun u => (W_X4 cI x0 g0 g1 g2 g3 g4 l0 l1 l2 l3 l4 l5 t0 t1 t2 xr xt gn gu gb ga lc lk ln lt ll lr tw tn tt)) hP hK hD hN hS hA [] [0, 1, 2, 3, 4, 5, 6, 7, 8, 9, 10, 11, 12, 13, 14] rfl rfl (by decide) (by decide) (by decide) [0, 1, 2, 3, 4, 5, 6, 7, 8, 9, 10, 11, 12, 13, 14] (by decide) (fun _ => rfl) (fun hg => va_runS (As := [.int xr, .int a1]) (rest := [.ref x0]) ⟨hx, hb, hml, hown, hts⟩ (c_X4_has l D cI _ xr a1) (va_cwS 2 hts gX4_raise_X4_has rfl rfl rfl (by decide +kernel) ⟨Nat.le_of_ble_eq_true rfl, Nat.le_of_ble_eq_true rfl⟩) ⟨PW.blind, fun U hU hW => ⟨rfl, hg U hU hW⟩⟩ rfl rfl hl.1 rfl (lv_room (Nat.le_of_ble_eq_true rfl)) dX4_raise_10 ⟨Nat.le_of_ble_eq_true rfl, Nat.le_of_ble_eq_true rfl⟩) (fun r2 u H locs hw hP hD hS => ?_)
    obtain ⟨hw, hb2⟩ := hw
    subst hw
    obtain ⟨j3, hJ3⟩ : ∃ z : Int32, z = (if (f_X4_has xr a1) = 0 then (1 : Int32) else (0 : Int32)) := ⟨_, rfl⟩
    rw [← hJ3] at he
    try dsimp only at he
    have hpJ3 := hp.1
    replace hp := hp.2 _  hJ3.symm
    have kont3 : (j3 = 0 ∨ j3 = 1) → ∀ (H : Heap) (locs : List Loc), va_P D vwCl (W_X4 cI x0 g0 g1 g2 g3 g4 l0 l1 l2 l3 l4 l5 t0 t1 t2 xr xt gn gu gb ga lc lk ln lt ll lr tw tn tt) H → va_D A (W_X4 cI x0 g0 g1 g2 g3 g4 l0 l1 l2 l3 l4 l5 t0 t1 t2 xr xt gn gu gb ga lc lk ln lt ll lr tw tn tt) → va_S A s.heap H locs → ∀ ls : Array Slot, lv_has ls 3 [(0, .ref x0), (1, .int a1)] → W p l e (headSpec wsX4_raise rm_X4_raise).room s m ([.ref x0, .int a1] : List Value).toArray below meth c H locs 1 6 (vx_MQ below (Q_X4_raise D cI x0 g0 g1 g2 g3 g4 l0 l1 l2 l3 l4 l5 t0 t1 t2 xr xt gn gu gb ga lc lk ln lt ll lr tw tn tt a1 A) (X_X4_raise D cI x0 g0 g1 g2 g3 g4 l0 l1 l2 l3 l4 l5 t0 t1 t2 xr xt gn gu gb ga lc lk ln lt ll lr tw tn tt a1 A) ([.ref x0, .int a1] : List Value).toArray s 2 12 A) (F0 m 21 ls [.int j3, .ref x0]) := by
      intro hb3 H locs hP hD hS ls hl
      refine k_xcallv (S := Unit) (px := fun E => f_X4_checkChange lc j3 = .inl E ∧ (E = eIS)) (wc := (W_X4 cI x0 g0 g1 g2 g3 g4 l0 l1 l2 l3 l4 l5 t0 t1 t2 xr xt gn gu gb ga lc lk ln lt ll lr tw tn tt)) (wr := ([] : va_W)) (w1 := fun u => (W_X4 cI x0 g0 g1 g2 g3 g4 l0 l1 l2 l3 l4 l5 t0 t1 t2 xr xt gn gu gb ga lc lk ln lt ll lr tw tn tt)) (fun u => (W_X4 cI x0 g0 g1 g2 g3 g4 l0 l1 l2 l3 l4 l5 t0 t1 t2 xr xt gn gu gb ga lc lk ln lt ll lr tw tn tt)) hP hK hD hN hXB hS hA [0, 1, 2, 3, 4, 5, 6, 7, 8, 9, 10, 11, 12, 13, 14] [] rfl rfl (by decide) (by decide) (by decide) [0, 1, 2, 3, 4, 5, 6, 7, 8, 9, 10, 11, 12, 13, 14] (by decide) (fun _ => rfl) rfl (fun hg => vx_runV (As := [.int j3]) (rest := []) ⟨hx, hb, hml, hown, hts⟩ (c_X4_checkChange l D cI x0 g0 g1 g2 g3 g4 l0 l1 l2 l3 l4 l5 t0 t1 t2 xr xt gn gu gb ga lc lk ln lt ll lr tw tn tt _ j3 hst) (cwV 1 hts gX4_raise_X4_checkChange rfl rfl rfl (by decide +kernel) ⟨Nat.le_of_ble_eq_true rfl, Nat.le_of_ble_eq_true rfl⟩) ⟨PX.blind, va_recv hK hP (ci := 4) (q0 := 0) rfl rfl, fun U hU hW => ⟨rfl, hg U hU hW⟩⟩ rfl rfl hl.1 rfl (lv_room (Nat.le_of_ble_eq_true rfl)) dX4_raise_21 ⟨Nat.le_of_ble_eq_true rfl, Nat.le_of_ble_eq_true rfl⟩) (fun E ce q9 H locs hw hP hD hS hc9 hv9 hcl9 => ?_) (fun u H locs hw hP hD hS => ?_)
      · rw [hw.1] at he
        try dsimp only at he
        exact k_out (fun x hx => (ht x hx).elim) hlocks hP hK hD hS hc9 hv9 hcl9 (Nat.le_of_ble_eq_true rfl) (Nat.le_of_ble_eq_true rfl) ⟨he, Or.inr (hw.2)⟩
      · rw [hw] at he
        try dsimp only at he
        replace hp := hp  hw
        refine lv_aload_n hx hb dX4_raise_24 rfl (lv_at hl 0 rfl) ?_
        refine va_get (D := D) (ci := 4) (v := .ref l0) (C := RX4) (T := TX4) (N := 5) hx hb hts (by decide +kernel) hown hK hP 0 rfl rfl 1 (by decide) (hts (.fieldLink RX4 19 "Alarmgrove" "log" "LAlarmgrove$Log;") (by decide +kernel)) (fun _ h9 => h9) rfl dX4_raise_25 ?_
        refine lv_iload_n hx hb dX4_raise_28 rfl (lv_at hl 1 rfl) ?_
        refine lv_aload_n hx hb dX4_raise_29 rfl (lv_at hl 0 rfl) ?_
        refine va_get (D := D) (ci := 4) (v := .int xt) (C := RX4) (T := TX4) (N := 5) hx hb hts (by decide +kernel) hown hK hP 0 rfl rfl 4 (by decide) (hts (.fieldLink RX4 34 "Alarmgrove" "time" "I") (by decide +kernel)) (fun _ h9 => h9) rfl dX4_raise_30 ?_
        have hq6 := hp.1
        replace hp := hp.2
        refine k_callv (S := Int32 × AA × AA × AA × AA × AA) (wc := (W_X2 cI l0 l1 l2 l3 l4 l5 lc lk ln lt ll lr)) (wr := ([(x0, .inr (4, [.ref g0, .ref l0, .ref t0, .int xr, .int xt]))] ++ (W_X1 cI g0 g1 g2 g3 g4 gn gu gb ga) ++ (W_X3 cI t0 t1 t2 tw tn tt))) (w1 := fun u => (W_X2 cI l0 l1 l2 l3 l4 l5 u.1 u.2.1 u.2.2.1 u.2.2.2.1 u.2.2.2.2.1 u.2.2.2.2.2)) (fun u => (W_X4 cI x0 g0 g1 g2 g3 g4 l0 l1 l2 l3 l4 l5 t0 t1 t2 xr xt gn gu gb ga u.1 u.2.1 u.2.2.1 u.2.2.2.1 u.2.2.2.2.1 u.2.2.2.2.2 tw tn tt)) hP hK hD hN hS hA [6, 7, 8, 9, 10, 11] [0, 1, 2, 3, 4, 5, 12, 13, 14] rfl rfl (by decide) (by decide) (by decide) [0, 1, 2, 3, 4, 5, 9, 10, 11, 12, 13, 14, 6, 7, 8] (by decide) (fun _ => rfl) (fun hg => va_runV (As := [.int a1, .int xt]) (rest := []) ⟨hx, hb, hml, hown, hts⟩ (c_X2_addRaise l D cI l0 l1 l2 l3 l4 l5 lc lk ln lt ll lr _ a1 xt hq6) (cwV 2 hts gX4_raise_X2_addRaise rfl rfl rfl (by decide +kernel) ⟨Nat.le_of_ble_eq_true rfl, Nat.le_of_ble_eq_true rfl⟩) ⟨PW.blind, va_recv hK hP (ci := 2) (q0 := 6) rfl rfl, fun U hU hW => ⟨rfl, hg U hU hW⟩⟩ rfl rfl hl.1 rfl (lv_room (Nat.le_of_ble_eq_true rfl)) dX4_raise_33 ⟨Nat.le_of_ble_eq_true rfl, Nat.le_of_ble_eq_true rfl⟩) (fun u H locs hw hP hD hS => ?_)
        obtain ⟨u6_0, u6_1, u6_2, u6_3, u6_4, u6_5⟩ := u
        rw [hw] at he
        try dsimp only at he
        replace hp := hp u6_0 u6_1 u6_2 u6_3 u6_4 u6_5 hw
        have hP : va_P D vwCl (W_X4 cI x0 g0 g1 g2 g3 g4 l0 l1 l2 l3 l4 l5 t0 t1 t2 xr xt gn gu gb ga u6_0 u6_1 u6_2 u6_3 u6_4 u6_5 tw tn tt) H := hP
        have hD : va_D A (W_X4 cI x0 g0 g1 g2 g3 g4 l0 l1 l2 l3 l4 l5 t0 t1 t2 xr xt gn gu gb ga u6_0 u6_1 u6_2 u6_3 u6_4 u6_5 tw tn tt) := hD
        refine lv_aload_n hx hb dX4_raise_36 rfl (lv_at hl 0 rfl) ?_
        refine va_get (D := D) (ci := 4) (v := .ref g0) (C := RX4) (T := TX4) (N := 5) hx hb hts (by decide +kernel) hown hK hP 0 rfl rfl 0 (by decide) (hts (.fieldLink RX4 10 "Alarmgrove" "graph" "LAlarmgrove$Graph;") (by decide +kernel)) (fun _ h9 => h9) rfl dX4_raise_37 ?_
        refine lv_iload_n hx hb dX4_raise_40 rfl (lv_at hl 1 rfl) ?_
        have hq7 := hp.1
        replace hp := hp.2
        refine k_calli (S := Unit) (wc := (W_X1 cI g0 g1 g2 g3 g4 gn gu gb ga)) (wr := ([(x0, .inr (4, [.ref g0, .ref l0, .ref t0, .int xr, .int xt]))] ++ (W_X2 cI l0 l1 l2 l3 l4 l5 u6_0 u6_1 u6_2 u6_3 u6_4 u6_5) ++ (W_X3 cI t0 t1 t2 tw tn tt))) (w1 := fun u => (W_X1 cI g0 g1 g2 g3 g4 gn gu gb ga)) (fun u => (W_X4 cI x0 g0 g1 g2 g3 g4 l0 l1 l2 l3 l4 l5 t0 t1 t2 xr xt gn gu gb ga u6_0 u6_1 u6_2 u6_3 u6_4 u6_5 tw tn tt)) hP hK hD hN hS hA [1, 2, 3, 4, 5] [0, 6, 7, 8, 9, 10, 11, 12, 13, 14] rfl rfl (by decide) (by decide) (by decide) [0, 10, 11, 12, 13, 14, 1, 2, 3, 4, 5, 6, 7, 8, 9] (by decide) (fun _ => rfl) (fun hg => va_runV (As := [.int a1]) (rest := []) ⟨hx, hb, hml, hown, hts⟩ (c_X1_below l D cI g0 g1 g2 g3 g4 gn gu gb ga _ a1 hq7) (cwV 1 hts gX4_raise_X1_below rfl rfl rfl (by decide +kernel) ⟨Nat.le_of_ble_eq_true rfl, Nat.le_of_ble_eq_true rfl⟩) ⟨PW.blind, va_recv hK hP (ci := 1) (q0 := 1) rfl rfl, fun U hU hW => ⟨rfl, hg U hU hW⟩⟩ rfl rfl hl.1 rfl (lv_room (Nat.le_of_ble_eq_true rfl)) dX4_raise_41 ⟨Nat.le_of_ble_eq_true rfl, Nat.le_of_ble_eq_true rfl⟩) (fun r7 u H locs hw hP hD hS => ?_)
        subst hw
        refine lv_aload_n hx hb dX4_raise_44 rfl (lv_at hl 0 rfl) ?_
        refine va_get (D := D) (ci := 4) (v := .ref g0) (C := RX4) (T := TX4) (N := 5) hx hb hts (by decide +kernel) hown hK hP 0 rfl rfl 0 (by decide) (hts (.fieldLink RX4 10 "Alarmgrove" "graph" "LAlarmgrove$Graph;") (by decide +kernel)) (fun _ h9 => h9) rfl dX4_raise_45 ?_
        refine lv_iload_n hx hb dX4_raise_48 rfl (lv_at hl 1 rfl) ?_
        have hq8 := hp.1
        replace hp := hp.2
        refine k_calli (S := Unit) (wc := (W_X1 cI g0 g1 g2 g3 g4 gn gu gb ga)) (wr := ([(x0, .inr (4, [.ref g0, .ref l0, .ref t0, .int xr, .int xt]))] ++ (W_X2 cI l0 l1 l2 l3 l4 l5 u6_0 u6_1 u6_2 u6_3 u6_4 u6_5) ++ (W_X3 cI t0 t1 t2 tw tn tt))) (w1 := fun u => (W_X1 cI g0 g1 g2 g3 g4 gn gu gb ga)) (fun u => (W_X4 cI x0 g0 g1 g2 g3 g4 l0 l1 l2 l3 l4 l5 t0 t1 t2 xr xt gn gu gb ga u6_0 u6_1 u6_2 u6_3 u6_4 u6_5 tw tn tt)) hP hK hD hN hS hA [1, 2, 3, 4, 5] [0, 6, 7, 8, 9, 10, 11, 12, 13, 14] rfl rfl (by decide) (by decide) (by decide) [0, 10, 11, 12, 13, 14, 1, 2, 3, 4, 5, 6, 7, 8, 9] (by decide) (fun _ => rfl) (fun hg => va_runV (As := [.int a1]) (rest := [.int (f_X1_below gb a1)]) ⟨hx, hb, hml, hown, hts⟩ (c_X1_above l D cI g0 g1 g2 g3 g4 gn gu gb ga _ a1 hq8) (cwV 1 hts gX4_raise_X1_above rfl rfl rfl (by decide +kernel) ⟨Nat.le_of_ble_eq_true rfl, Nat.le_of_ble_eq_true rfl⟩) ⟨PW.blind, va_recv hK hP (ci := 1) (q0 := 1) rfl rfl, fun U hU hW => ⟨rfl, hg U hU hW⟩⟩ rfl rfl hl.1 rfl (lv_room (Nat.le_of_ble_eq_true rfl)) dX4_raise_49 ⟨Nat.le_of_ble_eq_true rfl, Nat.le_of_ble_eq_true rfl⟩) (fun r8 u H locs hw hP hD hS => ?_)
        subst hw
        refine lv_ior hx hb dX4_raise_52 ?_
        refine lv_aload_n hx hb dX4_raise_53 rfl (lv_at hl 0 rfl) ?_
        refine va_get (D := D) (ci := 4) (v := .int xr) (C := RX4) (T := TX4) (N := 5) hx hb hts (by decide +kernel) hown hK hP 0 rfl rfl 3 (by decide) (hts (.fieldLink RX4 30 "Alarmgrove" "raised" "I") (by decide +kernel)) (fun _ h9 => h9) rfl dX4_raise_54 ?_
        refine lv_iand hx hb dX4_raise_57 ?_
        refine lv_istore_n (lv' := [(2, .int (((f_X1_below gb a1) ||| (f_X1_above ga a1)) &&& xr)), (0, .ref x0), (1, .int a1)]) hx hb dX4_raise_58 rfl hl (by decide) rfl (fun ls hl => ?_)
        refine lv_aload_n hx hb dX4_raise_59 rfl (lv_at hl 1 rfl) ?_
        refine lv_dup hx hb dX4_raise_60 rfl ?_
        refine va_get (D := D) (ci := 4) (v := .int xr) (C := RX4) (T := TX4) (N := 5) hx hb hts (by decide +kernel) hown hK hP 0 rfl rfl 3 (by decide) (hts (.fieldLink RX4 30 "Alarmgrove" "raised" "I") (by decide +kernel)) (fun _ h9 => h9) rfl dX4_raise_61 ?_
        refine lv_iload_n hx hb dX4_raise_64 rfl (lv_at hl 2 rfl) ?_
        refine k_calli (S := Unit) (wc := ([] : va_W)) (wr := (W_X4 cI x0 g0 g1 g2 g3 g4 l0 l1 l2 l3 l4 l5 t0 t1 t2 xr xt gn gu gb ga u6_0 u6_1 u6_2 u6_3 u6_4 u6_5 tw tn tt)) (w1 := fun u => ([] : va_W)) (fun u => (W_X4 cI x0 g0 g1 g2 g3 g4 l0 l1 l2 l3 l4 l5 t0 t1 t2 xr xt gn gu gb ga u6_0 u6_1 u6_2 u6_3 u6_4 u6_5 tw tn tt)) hP hK hD hN hS hA [] [0, 1, 2, 3, 4, 5, 6, 7, 8, 9, 10, 11, 12, 13, 14] rfl rfl (by decide) (by decide) (by decide) [0, 1, 2, 3, 4, 5, 6, 7, 8, 9, 10, 11, 12, 13, 14] (by decide) (fun _ => rfl) (fun hg => va_runS (As := [.int a1]) (rest := [.int xr, .ref x0]) ⟨hx, hb, hml, hown, hts⟩ (c_X4_only l D cI _ a1) (va_cwS 1 hts gX4_raise_X4_only rfl rfl rfl (by decide +kernel) ⟨Nat.le_of_ble_eq_true rfl, Nat.le_of_ble_eq_true rfl⟩) ⟨PW.blind, fun U hU hW => ⟨rfl, hg U hU hW⟩⟩ rfl rfl hl.1 rfl (lv_room (Nat.le_of_ble_eq_true rfl)) dX4_raise_65 ⟨Nat.le_of_ble_eq_true rfl, Nat.le_of_ble_eq_true rfl⟩) (fun r9 u H locs hw hP hD hS => ?_)
        subst hw
        refine lv_ior hx hb dX4_raise_68 ?_
        refine va_put (D := D) (ci := 4) (v := .int (xr ||| (f_X4_only a1))) (ty := .int) (C := RX4) (T := TX4) (N := 5) hx hb hts (by decide +kernel) tyX4 tyX4_ok nmX4 hown hK hP hD hS 0 rfl rfl 3 (by decide) (hts (.fieldLink RX4 30 "Alarmgrove" "raised" "I") (by decide +kernel)) (fun _ h9 => h9) rfl (by decide +kernel) rfl rfl (Nat.le_of_ble_eq_true rfl) dX4_raise_69 (fun H locs hP hD hS => ?_)
        have hP : va_P D vwCl (W_X4 cI x0 g0 g1 g2 g3 g4 l0 l1 l2 l3 l4 l5 t0 t1 t2 (xr ||| (f_X4_only a1)) xt gn gu gb ga u6_0 u6_1 u6_2 u6_3 u6_4 u6_5 tw tn tt) H := hP
        have hD : va_D A (W_X4 cI x0 g0 g1 g2 g3 g4 l0 l1 l2 l3 l4 l5 t0 t1 t2 (xr ||| (f_X4_only a1)) xt gn gu gb ga u6_0 u6_1 u6_2 u6_3 u6_4 u6_5 tw tn tt) := hD
        refine lv_aload_n hx hb dX4_raise_72 rfl (lv_at hl 1 rfl) ?_
        refine va_get (D := D) (ci := 4) (v := .ref t0) (C := RX4) (T := TX4) (N := 5) hx hb hts (by decide +kernel) hown hK hP 0 rfl rfl 2 (by decide) (hts (.fieldLink RX4 26 "Alarmgrove" "tickets" "LAlarmgrove$Tickets;") (by decide +kernel)) (fun _ h9 => h9) rfl dX4_raise_73 ?_
        refine lv_iload_n hx hb dX4_raise_76 rfl (lv_at hl 2 rfl) ?_
        refine lv_iload_n hx hb dX4_raise_77 rfl (lv_at hl 0 rfl) ?_
        have hq10 := hp.1
        replace hp := hp.2
        refine k_calli (S := Int32 × AA × AA) (wc := (W_X3 cI t0 t1 t2 tw tn tt)) (wr := ([(x0, .inr (4, [.ref g0, .ref l0, .ref t0, .int (xr ||| (f_X4_only a1)), .int xt]))] ++ (W_X1 cI g0 g1 g2 g3 g4 gn gu gb ga) ++ (W_X2 cI l0 l1 l2 l3 l4 l5 u6_0 u6_1 u6_2 u6_3 u6_4 u6_5))) (w1 := fun u => (W_X3 cI t0 t1 t2 u.1 u.2.1 u.2.2)) (fun u => (W_X4 cI x0 g0 g1 g2 g3 g4 l0 l1 l2 l3 l4 l5 t0 t1 t2 (xr ||| (f_X4_only a1)) xt gn gu gb ga u6_0 u6_1 u6_2 u6_3 u6_4 u6_5 u.1 u.2.1 u.2.2)) hP hK hD hN hS hA [12, 13, 14] [0, 1, 2, 3, 4, 5, 6, 7, 8, 9, 10, 11] rfl rfl (by decide) (by decide) (by decide) [0, 1, 2, 3, 4, 5, 6, 7, 8, 9, 10, 11, 12, 13, 14] (by decide) (fun _ => rfl) (fun hg => va_runV (As := [.int a1, .int (((f_X1_below gb a1) ||| (f_X1_above ga a1)) &&& xr)]) (rest := []) ⟨hx, hb, hml, hown, hts⟩ (c_X3_join l D cI t0 t1 t2 tw tn tt _ a1 (((f_X1_below gb a1) ||| (f_X1_above ga a1)) &&& xr) hq10) (cwV 2 hts gX4_raise_X3_join rfl rfl rfl (by decide +kernel) ⟨Nat.le_of_ble_eq_true rfl, Nat.le_of_ble_eq_true rfl⟩) ⟨PW.blind, va_recv hK hP (ci := 3) (q0 := 12) rfl rfl, fun U hU hW => ⟨rfl, hg U hU hW⟩⟩ rfl rfl hl.1 rfl (lv_room (Nat.le_of_ble_eq_true rfl)) dX4_raise_78 ⟨Nat.le_of_ble_eq_true rfl, Nat.le_of_ble_eq_true rfl⟩) (fun r10 u H locs hw hP hD hS => ?_)
        obtain ⟨u10_0, u10_1, u10_2⟩ := u
        rw [hw] at he
        try dsimp only at he
        replace hp := hp r10 u10_0 u10_1 u10_2 hw
        have hP : va_P D vwCl (W_X4 cI x0 g0 g1 g2 g3 g4 l0 l1 l2 l3 l4 l5 t0 t1 t2 (xr ||| (f_X4_only a1)) xt gn gu gb ga u6_0 u6_1 u6_2 u6_3 u6_4 u6_5 u10_0 u10_1 u10_2) H := hP
        have hD : va_D A (W_X4 cI x0 g0 g1 g2 g3 g4 l0 l1 l2 l3 l4 l5 t0 t1 t2 (xr ||| (f_X4_only a1)) xt gn gu gb ga u6_0 u6_1 u6_2 u6_3 u6_4 u6_5 u10_0 u10_1 u10_2) := hD
        refine vx_ret ?_
        exact W.iret (v := r10) hx hb hr (fun t ht hW => ⟨⟨r10, ((xr ||| (f_X4_only a1)), u6_0, u6_1, u6_2, u6_3, u6_4, u6_5, u10_0, u10_1, u10_2), rfl, he, by rw [ht]; exact hP, va_K.moved hW.alike hK, hD⟩, hS.F ht⟩) hS.2.2 dX4_raise_81
    replace he := hJ3
    replace hp := hpJ3
    refine lv_if_ne (tgt := 20) hx hb dX4_raise_13 (by decide) (fun c4 => ?_) (fun c4 => ?_)
    · replace hp := hp.2 c4
      replace he := he.trans (if_neg c4)
      refine lv_iconst (v := 0) hx hb dX4_raise_20 (by decide) ?_
      subst he
      exact kont3 (Or.inl rfl) _ _ hP hD hS _ (lv_sub hl [0, 1] rfl)
    · replace hp := hp.1 c4
      replace he := he.trans (if_pos c4)
      refine lv_iconst (v := 1) hx hb dX4_raise_16 (by decide) ?_
      refine lv_goto (tgt := 21) hx hb dX4_raise_17 (by decide) ?_
      subst he
      exact kont3 (Or.inr rfl) _ _ hP hD hS _ (lv_sub hl [0, 1] rfl)
abbrev rm_X4_clear : Room := { frames := 7, cells := 2, slots := 12, locals := 103 }
abbrev Q_X4_clear (D : va_G) (cI : ClassId) (x0 g0 g1 g2 g3 g4 l0 l1 l2 l3 l4 l5 t0 t1 t2 : Nat) (xr : Int32) (xt : Int32) (gn : AA) (gu : AA) (gb : AA) (ga : AA) (lc : Int32) (lk : AA) (ln : AA) (lt : AA) (ll : AA) (lr : AA) (tw : Int32) (tn : AA) (tt : AA) (a1 : Int32) (A : Nat → Prop) : Array Value → State → Outcome → State → Prop := va_Qi (S := Int32 × Int32 × AA × AA × AA × AA × AA) (fun r u => f_X4_clear xr xt lc lk ln lt ll lr tw tn a1 = .inr (r, u)) (fun u t => QW D [(cI, .int)] A (W_X4 cI x0 g0 g1 g2 g3 g4 l0 l1 l2 l3 l4 l5 t0 t1 t2 u.1 xt gn gu gb ga u.2.1 u.2.2.1 u.2.2.2.1 u.2.2.2.2.1 u.2.2.2.2.2.1 lr tw u.2.2.2.2.2.2 tt) t) A
abbrev X_X4_clear (D : va_G) (cI : ClassId) (x0 g0 g1 g2 g3 g4 l0 l1 l2 l3 l4 l5 t0 t1 t2 : Nat) (xr : Int32) (xt : Int32) (gn : AA) (gu : AA) (gb : AA) (ga : AA) (lc : Int32) (lk : AA) (ln : AA) (lt : AA) (ll : AA) (lr : AA) (tw : Int32) (tn : AA) (tt : AA) (a1 : Int32) (A : Nat → Prop) : String → State → State → Prop := vx_X (fun _ : Unit => True) (fun E _ t => (f_X4_clear xr xt lc lk ln lt ll lr tw tn a1 = .inl E ∧ (E = eIO ∨ E = eIS)) ∧ QW D [(cI, .int)] A (W_X4 cI x0 g0 g1 g2 g3 g4 l0 l1 l2 l3 l4 l5 t0 t1 t2 xr xt gn gu gb ga lc lk ln lt ll lr tw tn tt) t) A
set_option maxHeartbeats 4000000 in
set_option maxRecDepth 100000 in
theorem c_X4_clear (l : Launch)  (D : va_G) (cI : ClassId) (x0 g0 g1 g2 g3 g4 l0 l1 l2 l3 l4 l5 t0 t1 t2 : Nat) (xr : Int32) (xt : Int32) (gn : AA) (gu : AA) (gb : AA) (ga : AA) (lc : Int32) (lk : AA) (ln : AA) (lt : AA) (ll : AA) (lr : AA) (tw : Int32) (tn : AA) (tt : AA) (sz : Nat) (a1 : Int32) (hp : p_X4_clear xr xt lc lk ln lt ll lr tw tn a1) (hst : l.stackTraces = false) : vx_Met l yX4_clear wsX4_clear rm_X4_clear (va_Pc [.ref x0, .int a1] (PX D [(cI, .int)] sz (W_X4 cI x0 g0 g1 g2 g3 g4 l0 l1 l2 l3 l4 l5 t0 t1 t2 xr xt gn gu gb ga lc lk ln lt ll lr tw tn tt))) (Q_X4_clear D cI x0 g0 g1 g2 g3 g4 l0 l1 l2 l3 l4 l5 t0 t1 t2 xr xt gn gu gb ga lc lk ln lt ll lr tw tn tt a1 (va_A (W_X4 cI x0 g0 g1 g2 g3 g4 l0 l1 l2 l3 l4 l5 t0 t1 t2 xr xt gn gu gb ga lc lk ln lt ll lr tw tn tt) sz)) (X_X4_clear D cI x0 g0 g1 g2 g3 g4 l0 l1 l2 l3 l4 l5 t0 t1 t2 xr xt gn gu gb ga lc lk ln lt ll lr tw tn tt a1 (va_A (W_X4 cI x0 g0 g1 g2 g3 g4 l0 l1 l2 l3 l4 l5 t0 t1 t2 xr xt gn gu gb ga lc lk ln lt ll lr tw tn tt) sz)) 2 12 (va_A (W_X4 cI x0 g0 g1 g2 g3 g4 l0 l1 l2 l3 l4 l5 t0 t1 t2 xr xt gn gu gb ga lc lk ln lt ll lr tw tn tt) sz) := by
  refine vx_ofW (cc := cX4_clear) (maxL := 2) (ret := (some .int)) (by decide) rfl ?_
  intro p e s m args below meth c s₁ B hml ht hv
  obtain ⟨rfl, ⟨hsz, hP, hK, hD0, hN⟩, hXB⟩ := hv
  have hx := B.exec
  have hb := B.bytes
  have hr := B.returns
  have hts := atoms_spec (ws := wsX4_clear) B.pre
  have hown : s.vm.findClass RX4 = some m.cls := findClass_of_methodNamed B.named
  have hlocks := B.notSynchronized
  subst hsz
  have hD := hD0.self (sz := s.heap.size)
  generalize hAe : va_A (W_X4 cI x0 g0 g1 g2 g3 g4 l0 l1 l2 l3 l4 l5 t0 t1 t2 xr xt gn gu gb ga lc lk ln lt ll lr tw tn tt) s.heap.size = A at hD hXB ⊢
  have hA : ∀ q : Nat, s.heap.size ≤ q → A q := fun q h => by rw [← hAe]; exact Or.inr h
  have hS : va_S A s.heap s.heap [] := va_S.rf
  have hl := lv_entry ([.ref x0, .int a1]) (n := 2) (Nat.le_of_ble_eq_true rfl)
  rw [lg_entry_eq]
  generalize (lg_sl ([.ref x0, .int a1]) ++ List.replicate (2 - (lg_sl ([.ref x0, .int a1])).length) Slot.unset).toArray = ls at hl ⊢
  have hl : lv_has ls 2 [(0, .ref x0), (1, .int a1)] := hl
  have he := f_X4_clear.eq_1 xr xt lc lk ln lt ll lr tw tn a1
  replace hp := Eq.mp (p_X4_clear.eq_1 ..) hp
  refine lv_iload_n hx hb dX4_clear_0 rfl (lv_at hl 1 rfl) ?_
  refine k_xcallv (S := Unit) (px := fun E => f_X4_checkNode a1 = .inl E ∧ (E = eIO)) (wc := ([] : va_W)) (wr := (W_X4 cI x0 g0 g1 g2 g3 g4 l0 l1 l2 l3 l4 l5 t0 t1 t2 xr xt gn gu gb ga lc lk ln lt ll lr tw tn tt)) (w1 := fun u => ([] : va_W)) (fun u => (W_X4 cI x0 g0 g1 g2 g3 g4 l0 l1 l2 l3 l4 l5 t0 t1 t2 xr xt gn gu gb ga lc lk ln lt ll lr tw tn tt)) hP hK hD hN hXB hS hA [] [0, 1, 2, 3, 4, 5, 6, 7, 8, 9, 10, 11, 12, 13, 14] rfl rfl (by decide) (by decide) (by decide) [0, 1, 2, 3, 4, 5, 6, 7, 8, 9, 10, 11, 12, 13, 14] (by decide) (fun _ => rfl) rfl (fun hg => vx_runS (As := [.int a1]) (rest := []) ⟨hx, hb, hml, hown, hts⟩ (c_X4_checkNode l D cI _ a1 hst) (va_cwS 1 hts gX4_clear_X4_checkNode rfl rfl rfl (by decide +kernel) ⟨Nat.le_of_ble_eq_true rfl, Nat.le_of_ble_eq_true rfl⟩) ⟨PX.blind, fun U hU hW => ⟨rfl, hg U hU hW⟩⟩ rfl rfl hl.1 rfl (lv_room (Nat.le_of_ble_eq_true rfl)) dX4_clear_1 ⟨Nat.le_of_ble_eq_true rfl, Nat.le_of_ble_eq_true rfl⟩) (fun E ce q9 H locs hw hP hD hS hc9 hv9 hcl9 => ?_) (fun u H locs hw hP hD hS => ?_)
  · rw [hw.1] at he
    try dsimp only at he
    exact k_out (fun x hx => (ht x hx).elim) hlocks hP hK hD hS hc9 hv9 hcl9 (Nat.le_of_ble_eq_true rfl) (Nat.le_of_ble_eq_true rfl) ⟨he, Or.inl hw.2⟩
  · rw [hw] at he
    try dsimp only at he
    replace hp := hp  hw
    refine lv_aload_n hx hb dX4_clear_4 rfl (lv_at hl 0 rfl) ?_
    refine lv_aload_n hx hb dX4_clear_5 rfl (lv_at hl 0 rfl) ?_
    refine va_get (D := D) (ci := 4) (v := .int xr) (C := RX4) (T := TX4) (N := 5) hx hb hts (by decide +kernel) hown hK hP 0 rfl rfl 3 (by decide) (hts (.fieldLink RX4 30 "Alarmgrove" "raised" "I") (by decide +kernel)) (fun _ h9 => h9) rfl dX4_clear_6 ?_
    refine lv_iload_n hx hb dX4_clear_9 rfl (lv_at hl 1 rfl) ?_
    refine k_calli (S := Unit) (wc := ([] : va_W)) (wr := (W_X4 cI x0 g0 g1 g2 g3 g4 l0 l1 l2 l3 l4 l5 t0 t1 t2 xr xt gn gu gb ga lc lk ln lt ll lr tw tn tt)) (w1 := fun u => ([] : va_W)) (fun u => (W_X4 cI x0 g0 g1 g2 g3 g4 l0 l1 l2 l3 l4 l5 t0 t1 t2 xr xt gn gu gb ga lc lk ln lt ll lr tw tn tt)) hP hK hD hN hS hA [] [0, 1, 2, 3, 4, 5, 6, 7, 8, 9, 10, 11, 12, 13, 14] rfl rfl (by decide) (by decide) (by decide) [0, 1, 2, 3, 4, 5, 6, 7, 8, 9, 10, 11, 12, 13, 14] (by decide) (fun _ => rfl) (fun hg => va_runS (As := [.int xr, .int a1]) (rest := [.ref x0]) ⟨hx, hb, hml, hown, hts⟩ (c_X4_has l D cI _ xr a1) (va_cwS 2 hts gX4_clear_X4_has rfl rfl rfl (by decide +kernel) ⟨Nat.le_of_ble_eq_true rfl, Nat.le_of_ble_eq_true rfl⟩) ⟨PW.blind, fun U hU hW => ⟨rfl, hg U hU hW⟩⟩ rfl rfl hl.1 rfl (lv_room (Nat.le_of_ble_eq_true rfl)) dX4_clear_10 ⟨Nat.le_of_ble_eq_true rfl, Nat.le_of_ble_eq_true rfl⟩) (fun r2 u H locs hw hP hD hS => ?_)
    obtain ⟨hw, hb2⟩ := hw
    subst hw
    refine k_xcallv (S := Unit) (px := fun E => f_X4_checkChange lc (f_X4_has xr a1) = .inl E ∧ (E = eIS)) (wc := (W_X4 cI x0 g0 g1 g2 g3 g4 l0 l1 l2 l3 l4 l5 t0 t1 t2 xr xt gn gu gb ga lc lk ln lt ll lr tw tn tt)) (wr := ([] : va_W)) (w1 := fun u => (W_X4 cI x0 g0 g1 g2 g3 g4 l0 l1 l2 l3 l4 l5 t0 t1 t2 xr xt gn gu gb ga lc lk ln lt ll lr tw tn tt)) (fun u => (W_X4 cI x0 g0 g1 g2 g3 g4 l0 l1 l2 l3 l4 l5 t0 t1 t2 xr xt gn gu gb ga lc lk ln lt ll lr tw tn tt)) hP hK hD hN hXB hS hA [0, 1, 2, 3, 4, 5, 6, 7, 8, 9, 10, 11, 12, 13, 14] [] rfl rfl (by decide) (by decide) (by decide) [0, 1, 2, 3, 4, 5, 6, 7, 8, 9, 10, 11, 12, 13, 14] (by decide) (fun _ => rfl) rfl (fun hg => vx_runV (As := [.int (f_X4_has xr a1)]) (rest := []) ⟨hx, hb, hml, hown, hts⟩ (c_X4_checkChange l D cI x0 g0 g1 g2 g3 g4 l0 l1 l2 l3 l4 l5 t0 t1 t2 xr xt gn gu gb ga lc lk ln lt ll lr tw tn tt _ (f_X4_has xr a1) hst) (cwV 1 hts gX4_clear_X4_checkChange rfl rfl rfl (by decide +kernel) ⟨Nat.le_of_ble_eq_true rfl, Nat.le_of_ble_eq_true rfl⟩) ⟨PX.blind, va_recv hK hP (ci := 4) (q0 := 0) rfl rfl, fun U hU hW => ⟨rfl, hg U hU hW⟩⟩ rfl rfl hl.1 rfl (lv_room (Nat.le_of_ble_eq_true rfl)) dX4_clear_13 ⟨Nat.le_of_ble_eq_true rfl, Nat.le_of_ble_eq_true rfl⟩) (fun E ce q9 H locs hw hP hD hS hc9 hv9 hcl9 => ?_) (fun u H locs hw hP hD hS => ?_)
    · rw [hw.1] at he
      try dsimp only at he
      exact k_out (fun x hx => (ht x hx).elim) hlocks hP hK hD hS hc9 hv9 hcl9 (Nat.le_of_ble_eq_true rfl) (Nat.le_of_ble_eq_true rfl) ⟨he, Or.inr (hw.2)⟩
    · rw [hw] at he
      try dsimp only at he
      replace hp := hp  hw
      refine lv_aload_n hx hb dX4_clear_16 rfl (lv_at hl 0 rfl) ?_
      refine va_get (D := D) (ci := 4) (v := .ref l0) (C := RX4) (T := TX4) (N := 5) hx hb hts (by decide +kernel) hown hK hP 0 rfl rfl 1 (by decide) (hts (.fieldLink RX4 19 "Alarmgrove" "log" "LAlarmgrove$Log;") (by decide +kernel)) (fun _ h9 => h9) rfl dX4_clear_17 ?_
      refine lv_iload_n hx hb dX4_clear_20 rfl (lv_at hl 1 rfl) ?_
      refine lv_aload_n hx hb dX4_clear_21 rfl (lv_at hl 0 rfl) ?_
      refine va_get (D := D) (ci := 4) (v := .int xt) (C := RX4) (T := TX4) (N := 5) hx hb hts (by decide +kernel) hown hK hP 0 rfl rfl 4 (by decide) (hts (.fieldLink RX4 34 "Alarmgrove" "time" "I") (by decide +kernel)) (fun _ h9 => h9) rfl dX4_clear_22 ?_
      have hq4 := hp.1
      replace hp := hp.2
      refine k_callv (S := Int32 × AA × AA × AA × AA) (wc := (W_X2 cI l0 l1 l2 l3 l4 l5 lc lk ln lt ll lr)) (wr := ([(x0, .inr (4, [.ref g0, .ref l0, .ref t0, .int xr, .int xt]))] ++ (W_X1 cI g0 g1 g2 g3 g4 gn gu gb ga) ++ (W_X3 cI t0 t1 t2 tw tn tt))) (w1 := fun u => (W_X2 cI l0 l1 l2 l3 l4 l5 u.1 u.2.1 u.2.2.1 u.2.2.2.1 u.2.2.2.2 lr)) (fun u => (W_X4 cI x0 g0 g1 g2 g3 g4 l0 l1 l2 l3 l4 l5 t0 t1 t2 xr xt gn gu gb ga u.1 u.2.1 u.2.2.1 u.2.2.2.1 u.2.2.2.2 lr tw tn tt)) hP hK hD hN hS hA [6, 7, 8, 9, 10, 11] [0, 1, 2, 3, 4, 5, 12, 13, 14] rfl rfl (by decide) (by decide) (by decide) [0, 1, 2, 3, 4, 5, 9, 10, 11, 12, 13, 14, 6, 7, 8] (by decide) (fun _ => rfl) (fun hg => va_runV (As := [.int a1, .int xt]) (rest := []) ⟨hx, hb, hml, hown, hts⟩ (c_X2_addClear l D cI l0 l1 l2 l3 l4 l5 lc lk ln lt ll lr _ a1 xt hq4) (cwV 2 hts gX4_clear_X2_addClear rfl rfl rfl (by decide +kernel) ⟨Nat.le_of_ble_eq_true rfl, Nat.le_of_ble_eq_true rfl⟩) ⟨PW.blind, va_recv hK hP (ci := 2) (q0 := 6) rfl rfl, fun U hU hW => ⟨rfl, hg U hU hW⟩⟩ rfl rfl hl.1 rfl (lv_room (Nat.le_of_ble_eq_true rfl)) dX4_clear_25 ⟨Nat.le_of_ble_eq_true rfl, Nat.le_of_ble_eq_true rfl⟩) (fun u H locs hw hP hD hS => ?_)
      obtain ⟨u4_0, u4_1, u4_2, u4_3, u4_4⟩ := u
      rw [hw] at he
      try dsimp only at he
      replace hp := hp u4_0 u4_1 u4_2 u4_3 u4_4 hw
      have hP : va_P D vwCl (W_X4 cI x0 g0 g1 g2 g3 g4 l0 l1 l2 l3 l4 l5 t0 t1 t2 xr xt gn gu gb ga u4_0 u4_1 u4_2 u4_3 u4_4 lr tw tn tt) H := hP
      have hD : va_D A (W_X4 cI x0 g0 g1 g2 g3 g4 l0 l1 l2 l3 l4 l5 t0 t1 t2 xr xt gn gu gb ga u4_0 u4_1 u4_2 u4_3 u4_4 lr tw tn tt) := hD
      refine lv_aload_n hx hb dX4_clear_28 rfl (lv_at hl 0 rfl) ?_
      refine lv_dup hx hb dX4_clear_29 rfl ?_
      refine va_get (D := D) (ci := 4) (v := .int xr) (C := RX4) (T := TX4) (N := 5) hx hb hts (by decide +kernel) hown hK hP 0 rfl rfl 3 (by decide) (hts (.fieldLink RX4 30 "Alarmgrove" "raised" "I") (by decide +kernel)) (fun _ h9 => h9) rfl dX4_clear_30 ?_
      refine lv_iload_n hx hb dX4_clear_33 rfl (lv_at hl 1 rfl) ?_
      refine k_calli (S := Unit) (wc := ([] : va_W)) (wr := (W_X4 cI x0 g0 g1 g2 g3 g4 l0 l1 l2 l3 l4 l5 t0 t1 t2 xr xt gn gu gb ga u4_0 u4_1 u4_2 u4_3 u4_4 lr tw tn tt)) (w1 := fun u => ([] : va_W)) (fun u => (W_X4 cI x0 g0 g1 g2 g3 g4 l0 l1 l2 l3 l4 l5 t0 t1 t2 xr xt gn gu gb ga u4_0 u4_1 u4_2 u4_3 u4_4 lr tw tn tt)) hP hK hD hN hS hA [] [0, 1, 2, 3, 4, 5, 6, 7, 8, 9, 10, 11, 12, 13, 14] rfl rfl (by decide) (by decide) (by decide) [0, 1, 2, 3, 4, 5, 6, 7, 8, 9, 10, 11, 12, 13, 14] (by decide) (fun _ => rfl) (fun hg => va_runS (As := [.int a1]) (rest := [.int xr, .ref x0]) ⟨hx, hb, hml, hown, hts⟩ (c_X4_only l D cI _ a1) (va_cwS 1 hts gX4_clear_X4_only rfl rfl rfl (by decide +kernel) ⟨Nat.le_of_ble_eq_true rfl, Nat.le_of_ble_eq_true rfl⟩) ⟨PW.blind, fun U hU hW => ⟨rfl, hg U hU hW⟩⟩ rfl rfl hl.1 rfl (lv_room (Nat.le_of_ble_eq_true rfl)) dX4_clear_34 ⟨Nat.le_of_ble_eq_true rfl, Nat.le_of_ble_eq_true rfl⟩) (fun r5 u H locs hw hP hD hS => ?_)
      subst hw
      refine lv_iconst (v := (-1)) hx hb dX4_clear_37 (by decide) ?_
      refine lv_ixor hx hb dX4_clear_38 ?_
      refine lv_iand hx hb dX4_clear_39 ?_
      refine va_put (D := D) (ci := 4) (v := .int (xr &&& ((f_X4_only a1) ^^^ (-1)))) (ty := .int) (C := RX4) (T := TX4) (N := 5) hx hb hts (by decide +kernel) tyX4 tyX4_ok nmX4 hown hK hP hD hS 0 rfl rfl 3 (by decide) (hts (.fieldLink RX4 30 "Alarmgrove" "raised" "I") (by decide +kernel)) (fun _ h9 => h9) rfl (by decide +kernel) rfl rfl (Nat.le_of_ble_eq_true rfl) dX4_clear_40 (fun H locs hP hD hS => ?_)
      have hP : va_P D vwCl (W_X4 cI x0 g0 g1 g2 g3 g4 l0 l1 l2 l3 l4 l5 t0 t1 t2 (xr &&& ((f_X4_only a1) ^^^ (-1))) xt gn gu gb ga u4_0 u4_1 u4_2 u4_3 u4_4 lr tw tn tt) H := hP
      have hD : va_D A (W_X4 cI x0 g0 g1 g2 g3 g4 l0 l1 l2 l3 l4 l5 t0 t1 t2 (xr &&& ((f_X4_only a1) ^^^ (-1))) xt gn gu gb ga u4_0 u4_1 u4_2 u4_3 u4_4 lr tw tn tt) := hD
      refine lv_aload_n hx hb dX4_clear_43 rfl (lv_at hl 0 rfl) ?_
      refine va_get (D := D) (ci := 4) (v := .ref t0) (C := RX4) (T := TX4) (N := 5) hx hb hts (by decide +kernel) hown hK hP 0 rfl rfl 2 (by decide) (hts (.fieldLink RX4 26 "Alarmgrove" "tickets" "LAlarmgrove$Tickets;") (by decide +kernel)) (fun _ h9 => h9) rfl dX4_clear_44 ?_
      refine lv_iload_n hx hb dX4_clear_47 rfl (lv_at hl 1 rfl) ?_
      have hq6 := hp.1
      replace hp := hp.2
      refine k_calli (S := AA) (wc := (W_X3 cI t0 t1 t2 tw tn tt)) (wr := ([(x0, .inr (4, [.ref g0, .ref l0, .ref t0, .int (xr &&& ((f_X4_only a1) ^^^ (-1))), .int xt]))] ++ (W_X1 cI g0 g1 g2 g3 g4 gn gu gb ga) ++ (W_X2 cI l0 l1 l2 l3 l4 l5 u4_0 u4_1 u4_2 u4_3 u4_4 lr))) (w1 := fun u => (W_X3 cI t0 t1 t2 tw u tt)) (fun u => (W_X4 cI x0 g0 g1 g2 g3 g4 l0 l1 l2 l3 l4 l5 t0 t1 t2 (xr &&& ((f_X4_only a1) ^^^ (-1))) xt gn gu gb ga u4_0 u4_1 u4_2 u4_3 u4_4 lr tw u tt)) hP hK hD hN hS hA [12, 13, 14] [0, 1, 2, 3, 4, 5, 6, 7, 8, 9, 10, 11] rfl rfl (by decide) (by decide) (by decide) [0, 1, 2, 3, 4, 5, 6, 7, 8, 9, 10, 11, 12, 13, 14] (by decide) (fun _ => rfl) (fun hg => va_runV (As := [.int a1]) (rest := []) ⟨hx, hb, hml, hown, hts⟩ (c_X3_leave l D cI t0 t1 t2 tw tn tt _ a1 hq6) (cwV 1 hts gX4_clear_X3_leave rfl rfl rfl (by decide +kernel) ⟨Nat.le_of_ble_eq_true rfl, Nat.le_of_ble_eq_true rfl⟩) ⟨PW.blind, va_recv hK hP (ci := 3) (q0 := 12) rfl rfl, fun U hU hW => ⟨rfl, hg U hU hW⟩⟩ rfl rfl hl.1 rfl (lv_room (Nat.le_of_ble_eq_true rfl)) dX4_clear_48 ⟨Nat.le_of_ble_eq_true rfl, Nat.le_of_ble_eq_true rfl⟩) (fun r6 u H locs hw hP hD hS => ?_)
      obtain ⟨u6_0, rfl⟩ : ∃ z, z = u := ⟨_, rfl⟩
      rw [hw] at he
      try dsimp only at he
      replace hp := hp r6 u6_0 hw
      have hP : va_P D vwCl (W_X4 cI x0 g0 g1 g2 g3 g4 l0 l1 l2 l3 l4 l5 t0 t1 t2 (xr &&& ((f_X4_only a1) ^^^ (-1))) xt gn gu gb ga u4_0 u4_1 u4_2 u4_3 u4_4 lr tw u6_0 tt) H := hP
      have hD : va_D A (W_X4 cI x0 g0 g1 g2 g3 g4 l0 l1 l2 l3 l4 l5 t0 t1 t2 (xr &&& ((f_X4_only a1) ^^^ (-1))) xt gn gu gb ga u4_0 u4_1 u4_2 u4_3 u4_4 lr tw u6_0 tt) := hD
      refine vx_ret ?_
      exact W.iret (v := r6) hx hb hr (fun t ht hW => ⟨⟨r6, ((xr &&& ((f_X4_only a1) ^^^ (-1))), u4_0, u4_1, u4_2, u4_3, u4_4, u6_0), rfl, he, by rw [ht]; exact hP, va_K.moved hW.alike hK, hD⟩, hS.F ht⟩) hS.2.2 dX4_clear_51
abbrev rm_X4_events : Room := { frames := 1, cells := 0, slots := 0, locals := 20 }
abbrev Q_X4_events (D : va_G) (cI : ClassId) (x0 g0 g1 g2 g3 g4 l0 l1 l2 l3 l4 l5 t0 t1 t2 : Nat) (xr : Int32) (xt : Int32) (gn : AA) (gu : AA) (gb : AA) (ga : AA) (lc : Int32) (lk : AA) (ln : AA) (lt : AA) (ll : AA) (lr : AA) (tw : Int32) (tn : AA) (tt : AA) (A : Nat → Prop) : Array Value → State → Outcome → State → Prop := va_Qi (S := Unit) (fun r u => f_X4_events lc = r) (fun u t => QW D [(cI, .int)] A (W_X4 cI x0 g0 g1 g2 g3 g4 l0 l1 l2 l3 l4 l5 t0 t1 t2 xr xt gn gu gb ga lc lk ln lt ll lr tw tn tt) t) A
set_option maxHeartbeats 4000000 in
set_option maxRecDepth 100000 in
theorem c_X4_events (l : Launch)  (D : va_G) (cI : ClassId) (x0 g0 g1 g2 g3 g4 l0 l1 l2 l3 l4 l5 t0 t1 t2 : Nat) (xr : Int32) (xt : Int32) (gn : AA) (gu : AA) (gb : AA) (ga : AA) (lc : Int32) (lk : AA) (ln : AA) (lt : AA) (ll : AA) (lr : AA) (tw : Int32) (tn : AA) (tt : AA) (sz : Nat) : Met l yX4_events wsX4_events rm_X4_events (va_Pc [.ref x0] (PW D [(cI, .int)] sz (W_X4 cI x0 g0 g1 g2 g3 g4 l0 l1 l2 l3 l4 l5 t0 t1 t2 xr xt gn gu gb ga lc lk ln lt ll lr tw tn tt))) (Q_X4_events D cI x0 g0 g1 g2 g3 g4 l0 l1 l2 l3 l4 l5 t0 t1 t2 xr xt gn gu gb ga lc lk ln lt ll lr tw tn tt (va_A (W_X4 cI x0 g0 g1 g2 g3 g4 l0 l1 l2 l3 l4 l5 t0 t1 t2 xr xt gn gu gb ga lc lk ln lt ll lr tw tn tt) sz)) 0 0 (va_A (W_X4 cI x0 g0 g1 g2 g3 g4 l0 l1 l2 l3 l4 l5 t0 t1 t2 xr xt gn gu gb ga lc lk ln lt ll lr tw tn tt) sz) := by
  refine Met.ofW (cc := cX4_events) (maxL := 1) (ret := (some .int)) (by decide) rfl ?_
  intro p e s m args below meth c s₁ B hml hv
  obtain ⟨rfl, hsz, hP, hK, hD0, hN⟩ := hv
  have hx := B.exec
  have hb := B.bytes
  have hr := B.returns
  have hts := atoms_spec (ws := wsX4_events) B.pre
  have hown : s.vm.findClass RX4 = some m.cls := findClass_of_methodNamed B.named
  have hlocks := B.notSynchronized
  subst hsz
  have hD := hD0.self (sz := s.heap.size)
  generalize hAe : va_A (W_X4 cI x0 g0 g1 g2 g3 g4 l0 l1 l2 l3 l4 l5 t0 t1 t2 xr xt gn gu gb ga lc lk ln lt ll lr tw tn tt) s.heap.size = A at hD ⊢
  have hA : ∀ q : Nat, s.heap.size ≤ q → A q := fun q h => by rw [← hAe]; exact Or.inr h
  have hS : va_S A s.heap s.heap [] := va_S.rf
  have hl := lv_entry ([.ref x0]) (n := 1) (Nat.le_of_ble_eq_true rfl)
  rw [lg_entry_eq]
  generalize (lg_sl ([.ref x0]) ++ List.replicate (1 - (lg_sl ([.ref x0])).length) Slot.unset).toArray = ls at hl ⊢
  have hl : lv_has ls 1 [(0, .ref x0)] := hl
  have he := f_X4_events.eq_1 lc
  refine lv_aload_n hx hb dX4_events_0 rfl (lv_at hl 0 rfl) ?_
  refine va_get (D := D) (ci := 4) (v := .ref l0) (C := RX4) (T := TX4) (N := 5) hx hb hts (by decide +kernel) hown hK hP 0 rfl rfl 1 (by decide) (hts (.fieldLink RX4 19 "Alarmgrove" "log" "LAlarmgrove$Log;") (by decide +kernel)) (fun _ h9 => h9) rfl dX4_events_1 ?_
  refine k_calli (S := Unit) (wc := (W_X2 cI l0 l1 l2 l3 l4 l5 lc lk ln lt ll lr)) (wr := ([(x0, .inr (4, [.ref g0, .ref l0, .ref t0, .int xr, .int xt]))] ++ (W_X1 cI g0 g1 g2 g3 g4 gn gu gb ga) ++ (W_X3 cI t0 t1 t2 tw tn tt))) (w1 := fun u => (W_X2 cI l0 l1 l2 l3 l4 l5 lc lk ln lt ll lr)) (fun u => (W_X4 cI x0 g0 g1 g2 g3 g4 l0 l1 l2 l3 l4 l5 t0 t1 t2 xr xt gn gu gb ga lc lk ln lt ll lr tw tn tt)) hP hK hD hN hS hA [6, 7, 8, 9, 10, 11] [0, 1, 2, 3, 4, 5, 12, 13, 14] rfl rfl (by decide) (by decide) (by decide) [0, 1, 2, 3, 4, 5, 9, 10, 11, 12, 13, 14, 6, 7, 8] (by decide) (fun _ => rfl) (fun hg => va_runV (As := []) (rest := []) ⟨hx, hb, hml, hown, hts⟩ (c_X2_count l D cI l0 l1 l2 l3 l4 l5 lc lk ln lt ll lr _ ) (cwV 0 hts gX4_events_X2_count rfl rfl rfl (by decide +kernel) ⟨Nat.le_of_ble_eq_true rfl, Nat.le_of_ble_eq_true rfl⟩) ⟨PW.blind, va_recv hK hP (ci := 2) (q0 := 6) rfl rfl, fun U hU hW => ⟨rfl, hg U hU hW⟩⟩ rfl rfl hl.1 rfl (lv_room (Nat.le_of_ble_eq_true rfl)) dX4_events_4 ⟨Nat.le_of_ble_eq_true rfl, Nat.le_of_ble_eq_true rfl⟩) (fun r1 u H locs hw hP hD hS => ?_)
  subst hw
  exact W.iret (v := (f_X2_count lc)) hx hb hr (fun t ht hW => ⟨⟨(f_X2_count lc), (), rfl, he, by rw [ht]; exact hP, va_K.moved hW.alike hK, hD⟩, hS.F ht⟩) hS.2.2 dX4_events_7
abbrev rm_X4_ticketOf : Room := { frames := 7, cells := 1, slots := 6, locals := 102 }
abbrev Q_X4_ticketOf (D : va_G) (cI : ClassId) (x0 g0 g1 g2 g3 g4 l0 l1 l2 l3 l4 l5 t0 t1 t2 : Nat) (xr : Int32) (xt : Int32) (gn : AA) (gu : AA) (gb : AA) (ga : AA) (lc : Int32) (lk : AA) (ln : AA) (lt : AA) (ll : AA) (lr : AA) (tw : Int32) (tn : AA) (tt : AA) (a1 : Int32) (A : Nat → Prop) : Array Value → State → Outcome → State → Prop := va_Qi (S := Unit) (fun r u => f_X4_ticketOf tn a1 = .inr r) (fun u t => QW D [(cI, .int)] A (W_X4 cI x0 g0 g1 g2 g3 g4 l0 l1 l2 l3 l4 l5 t0 t1 t2 xr xt gn gu gb ga lc lk ln lt ll lr tw tn tt) t) A
abbrev X_X4_ticketOf (D : va_G) (cI : ClassId) (x0 g0 g1 g2 g3 g4 l0 l1 l2 l3 l4 l5 t0 t1 t2 : Nat) (xr : Int32) (xt : Int32) (gn : AA) (gu : AA) (gb : AA) (ga : AA) (lc : Int32) (lk : AA) (ln : AA) (lt : AA) (ll : AA) (lr : AA) (tw : Int32) (tn : AA) (tt : AA) (a1 : Int32) (A : Nat → Prop) : String → State → State → Prop := vx_X (fun _ : Unit => True) (fun E _ t => (f_X4_ticketOf tn a1 = .inl E ∧ (E = eIO)) ∧ QW D [(cI, .int)] A (W_X4 cI x0 g0 g1 g2 g3 g4 l0 l1 l2 l3 l4 l5 t0 t1 t2 xr xt gn gu gb ga lc lk ln lt ll lr tw tn tt) t) A
set_option maxHeartbeats 4000000 in
set_option maxRecDepth 100000 in
theorem c_X4_ticketOf (l : Launch)  (D : va_G) (cI : ClassId) (x0 g0 g1 g2 g3 g4 l0 l1 l2 l3 l4 l5 t0 t1 t2 : Nat) (xr : Int32) (xt : Int32) (gn : AA) (gu : AA) (gb : AA) (ga : AA) (lc : Int32) (lk : AA) (ln : AA) (lt : AA) (ll : AA) (lr : AA) (tw : Int32) (tn : AA) (tt : AA) (sz : Nat) (a1 : Int32) (hp : p_X4_ticketOf a1) (hst : l.stackTraces = false) : vx_Met l yX4_ticketOf wsX4_ticketOf rm_X4_ticketOf (va_Pc [.ref x0, .int a1] (PX D [(cI, .int)] sz (W_X4 cI x0 g0 g1 g2 g3 g4 l0 l1 l2 l3 l4 l5 t0 t1 t2 xr xt gn gu gb ga lc lk ln lt ll lr tw tn tt))) (Q_X4_ticketOf D cI x0 g0 g1 g2 g3 g4 l0 l1 l2 l3 l4 l5 t0 t1 t2 xr xt gn gu gb ga lc lk ln lt ll lr tw tn tt a1 (va_A (W_X4 cI x0 g0 g1 g2 g3 g4 l0 l1 l2 l3 l4 l5 t0 t1 t2 xr xt gn gu gb ga lc lk ln lt ll lr tw tn tt) sz)) (X_X4_ticketOf D cI x0 g0 g1 g2 g3 g4 l0 l1 l2 l3 l4 l5 t0 t1 t2 xr xt gn gu gb ga lc lk ln lt ll lr tw tn tt a1 (va_A (W_X4 cI x0 g0 g1 g2 g3 g4 l0 l1 l2 l3 l4 l5 t0 t1 t2 xr xt gn gu gb ga lc lk ln lt ll lr tw tn tt) sz)) 1 6 (va_A (W_X4 cI x0 g0 g1 g2 g3 g4 l0 l1 l2 l3 l4 l5 t0 t1 t2 xr xt gn gu gb ga lc lk ln lt ll lr tw tn tt) sz) := by
  refine vx_ofW (cc := cX4_ticketOf) (maxL := 2) (ret := (some .int)) (by decide) rfl ?_
  intro p e s m args below meth c s₁ B hml ht hv
  obtain ⟨rfl, ⟨hsz, hP, hK, hD0, hN⟩, hXB⟩ := hv
  have hx := B.exec
  have hb := B.bytes
  have hr := B.returns
  have hts := atoms_spec (ws := wsX4_ticketOf) B.pre
  have hown : s.vm.findClass RX4 = some m.cls := findClass_of_methodNamed B.named
  have hlocks := B.notSynchronized
  subst hsz
  have hD := hD0.self (sz := s.heap.size)
  generalize hAe : va_A (W_X4 cI x0 g0 g1 g2 g3 g4 l0 l1 l2 l3 l4 l5 t0 t1 t2 xr xt gn gu gb ga lc lk ln lt ll lr tw tn tt) s.heap.size = A at hD hXB ⊢
  have hA : ∀ q : Nat, s.heap.size ≤ q → A q := fun q h => by rw [← hAe]; exact Or.inr h
  have hS : va_S A s.heap s.heap [] := va_S.rf
  have hl := lv_entry ([.ref x0, .int a1]) (n := 2) (Nat.le_of_ble_eq_true rfl)
  rw [lg_entry_eq]
  generalize (lg_sl ([.ref x0, .int a1]) ++ List.replicate (2 - (lg_sl ([.ref x0, .int a1])).length) Slot.unset).toArray = ls at hl ⊢
  have hl : lv_has ls 2 [(0, .ref x0), (1, .int a1)] := hl
  have he := f_X4_ticketOf.eq_1 tn a1
  replace hp := Eq.mp (p_X4_ticketOf.eq_1 ..) hp
  refine lv_iload_n hx hb dX4_ticketOf_0 rfl (lv_at hl 1 rfl) ?_
  refine k_xcallv (S := Unit) (px := fun E => f_X4_checkNode a1 = .inl E ∧ (E = eIO)) (wc := ([] : va_W)) (wr := (W_X4 cI x0 g0 g1 g2 g3 g4 l0 l1 l2 l3 l4 l5 t0 t1 t2 xr xt gn gu gb ga lc lk ln lt ll lr tw tn tt)) (w1 := fun u => ([] : va_W)) (fun u => (W_X4 cI x0 g0 g1 g2 g3 g4 l0 l1 l2 l3 l4 l5 t0 t1 t2 xr xt gn gu gb ga lc lk ln lt ll lr tw tn tt)) hP hK hD hN hXB hS hA [] [0, 1, 2, 3, 4, 5, 6, 7, 8, 9, 10, 11, 12, 13, 14] rfl rfl (by decide) (by decide) (by decide) [0, 1, 2, 3, 4, 5, 6, 7, 8, 9, 10, 11, 12, 13, 14] (by decide) (fun _ => rfl) rfl (fun hg => vx_runS (As := [.int a1]) (rest := []) ⟨hx, hb, hml, hown, hts⟩ (c_X4_checkNode l D cI _ a1 hst) (va_cwS 1 hts gX4_ticketOf_X4_checkNode rfl rfl rfl (by decide +kernel) ⟨Nat.le_of_ble_eq_true rfl, Nat.le_of_ble_eq_true rfl⟩) ⟨PX.blind, fun U hU hW => ⟨rfl, hg U hU hW⟩⟩ rfl rfl hl.1 rfl (lv_room (Nat.le_of_ble_eq_true rfl)) dX4_ticketOf_1 ⟨Nat.le_of_ble_eq_true rfl, Nat.le_of_ble_eq_true rfl⟩) (fun E ce q9 H locs hw hP hD hS hc9 hv9 hcl9 => ?_) (fun u H locs hw hP hD hS => ?_)
  · rw [hw.1] at he
    try dsimp only at he
    exact k_out (fun x hx => (ht x hx).elim) hlocks hP hK hD hS hc9 hv9 hcl9 (Nat.le_of_ble_eq_true rfl) (Nat.le_of_ble_eq_true rfl) ⟨he, hw.2⟩
  · rw [hw] at he
    try dsimp only at he
    replace hp := hp  hw
    refine lv_aload_n hx hb dX4_ticketOf_4 rfl (lv_at hl 0 rfl) ?_
    refine va_get (D := D) (ci := 4) (v := .ref t0) (C := RX4) (T := TX4) (N := 5) hx hb hts (by decide +kernel) hown hK hP 0 rfl rfl 2 (by decide) (hts (.fieldLink RX4 26 "Alarmgrove" "tickets" "LAlarmgrove$Tickets;") (by decide +kernel)) (fun _ h9 => h9) rfl dX4_ticketOf_5 ?_
    refine lv_iload_n hx hb dX4_ticketOf_8 rfl (lv_at hl 1 rfl) ?_
    have hq2 := hp.1
    replace hp := hp.2
    refine k_calli (S := Unit) (wc := (W_X3 cI t0 t1 t2 tw tn tt)) (wr := ([(x0, .inr (4, [.ref g0, .ref l0, .ref t0, .int xr, .int xt]))] ++ (W_X1 cI g0 g1 g2 g3 g4 gn gu gb ga) ++ (W_X2 cI l0 l1 l2 l3 l4 l5 lc lk ln lt ll lr))) (w1 := fun u => (W_X3 cI t0 t1 t2 tw tn tt)) (fun u => (W_X4 cI x0 g0 g1 g2 g3 g4 l0 l1 l2 l3 l4 l5 t0 t1 t2 xr xt gn gu gb ga lc lk ln lt ll lr tw tn tt)) hP hK hD hN hS hA [12, 13, 14] [0, 1, 2, 3, 4, 5, 6, 7, 8, 9, 10, 11] rfl rfl (by decide) (by decide) (by decide) [0, 1, 2, 3, 4, 5, 6, 7, 8, 9, 10, 11, 12, 13, 14] (by decide) (fun _ => rfl) (fun hg => va_runV (As := [.int a1]) (rest := []) ⟨hx, hb, hml, hown, hts⟩ (c_X3_numberOf l D cI t0 t1 t2 tw tn tt _ a1 hq2) (cwV 1 hts gX4_ticketOf_X3_numberOf rfl rfl rfl (by decide +kernel) ⟨Nat.le_of_ble_eq_true rfl, Nat.le_of_ble_eq_true rfl⟩) ⟨PW.blind, va_recv hK hP (ci := 3) (q0 := 12) rfl rfl, fun U hU hW => ⟨rfl, hg U hU hW⟩⟩ rfl rfl hl.1 rfl (lv_room (Nat.le_of_ble_eq_true rfl)) dX4_ticketOf_9 ⟨Nat.le_of_ble_eq_true rfl, Nat.le_of_ble_eq_true rfl⟩) (fun r2 u H locs hw hP hD hS => ?_)
    subst hw
    refine vx_ret ?_
    exact W.iret (v := (f_X3_numberOf tn a1)) hx hb hr (fun t ht hW => ⟨⟨(f_X3_numberOf tn a1), (), rfl, he, by rw [ht]; exact hP, va_K.moved hW.alike hK, hD⟩, hS.F ht⟩) hS.2.2 dX4_ticketOf_12
abbrev rm_X4_isPlausible : Room := { frames := 7, cells := 2, slots := 9, locals := 102 }
abbrev Q_X4_isPlausible (D : va_G) (cI : ClassId) (x0 g0 g1 g2 g3 g4 l0 l1 l2 l3 l4 l5 t0 t1 t2 : Nat) (xr : Int32) (xt : Int32) (gn : AA) (gu : AA) (gb : AA) (ga : AA) (lc : Int32) (lk : AA) (ln : AA) (lt : AA) (ll : AA) (lr : AA) (tw : Int32) (tn : AA) (tt : AA) (a1 : Int32) (A : Nat → Prop) : Array Value → State → Outcome → State → Prop := va_Qi (S := Unit) (fun r u => f_X4_isPlausible xr gu a1 = .inr r ∧ (r = 0 ∨ r = 1)) (fun u t => QW D [(cI, .int)] A (W_X4 cI x0 g0 g1 g2 g3 g4 l0 l1 l2 l3 l4 l5 t0 t1 t2 xr xt gn gu gb ga lc lk ln lt ll lr tw tn tt) t) A
abbrev X_X4_isPlausible (D : va_G) (cI : ClassId) (x0 g0 g1 g2 g3 g4 l0 l1 l2 l3 l4 l5 t0 t1 t2 : Nat) (xr : Int32) (xt : Int32) (gn : AA) (gu : AA) (gb : AA) (ga : AA) (lc : Int32) (lk : AA) (ln : AA) (lt : AA) (ll : AA) (lr : AA) (tw : Int32) (tn : AA) (tt : AA) (a1 : Int32) (A : Nat → Prop) : String → State → State → Prop := vx_X (fun _ : Unit => True) (fun E _ t => (f_X4_isPlausible xr gu a1 = .inl E ∧ (E = eIO)) ∧ QW D [(cI, .int)] A (W_X4 cI x0 g0 g1 g2 g3 g4 l0 l1 l2 l3 l4 l5 t0 t1 t2 xr xt gn gu gb ga lc lk ln lt ll lr tw tn tt) t) A
set_option maxHeartbeats 4000000 in
set_option maxRecDepth 100000 in
theorem c_X4_isPlausible (l : Launch)  (D : va_G) (cI : ClassId) (x0 g0 g1 g2 g3 g4 l0 l1 l2 l3 l4 l5 t0 t1 t2 : Nat) (xr : Int32) (xt : Int32) (gn : AA) (gu : AA) (gb : AA) (ga : AA) (lc : Int32) (lk : AA) (ln : AA) (lt : AA) (ll : AA) (lr : AA) (tw : Int32) (tn : AA) (tt : AA) (sz : Nat) (a1 : Int32) (hp : p_X4_isPlausible xr gu a1) (hst : l.stackTraces = false) : vx_Met l yX4_isPlausible wsX4_isPlausible rm_X4_isPlausible (va_Pc [.ref x0, .int a1] (PX D [(cI, .int)] sz (W_X4 cI x0 g0 g1 g2 g3 g4 l0 l1 l2 l3 l4 l5 t0 t1 t2 xr xt gn gu gb ga lc lk ln lt ll lr tw tn tt))) (Q_X4_isPlausible D cI x0 g0 g1 g2 g3 g4 l0 l1 l2 l3 l4 l5 t0 t1 t2 xr xt gn gu gb ga lc lk ln lt ll lr tw tn tt a1 (va_A (W_X4 cI x0 g0 g1 g2 g3 g4 l0 l1 l2 l3 l4 l5 t0 t1 t2 xr xt gn gu gb ga lc lk ln lt ll lr tw tn tt) sz)) (X_X4_isPlausible D cI x0 g0 g1 g2 g3 g4 l0 l1 l2 l3 l4 l5 t0 t1 t2 xr xt gn gu gb ga lc lk ln lt ll lr tw tn tt a1 (va_A (W_X4 cI x0 g0 g1 g2 g3 g4 l0 l1 l2 l3 l4 l5 t0 t1 t2 xr xt gn gu gb ga lc lk ln lt ll lr tw tn tt) sz)) 2 9 (va_A (W_X4 cI x0 g0 g1 g2 g3 g4 l0 l1 l2 l3 l4 l5 t0 t1 t2 xr xt gn gu gb ga lc lk ln lt ll lr tw tn tt) sz) := by
  refine vx_ofW (cc := cX4_isPlausible) (maxL := 2) (ret := (some .boolean)) (by decide) rfl ?_
  intro p e s m args below meth c s₁ B hml ht hv
  obtain ⟨rfl, ⟨hsz, hP, hK, hD0, hN⟩, hXB⟩ := hv
  have hx := B.exec
  have hb := B.bytes
  have hr := B.returns
  have hts := atoms_spec (ws := wsX4_isPlausible) B.pre
  have hown : s.vm.findClass RX4 = some m.cls := findClass_of_methodNamed B.named
  have hlocks := B.notSynchronized
  subst hsz
  have hD := hD0.self (sz := s.heap.size)
  generalize hAe : va_A (W_X4 cI x0 g0 g1 g2 g3 g4 l0 l1 l2 l3 l4 l5 t0 t1 t2 xr xt gn gu gb ga lc lk ln lt ll lr tw tn tt) s.heap.size = A at hD hXB ⊢
  have hA : ∀ q : Nat, s.heap.size ≤ q → A q := fun q h => by rw [← hAe]; exact Or.inr h
  have hS : va_S A s.heap s.heap [] := va_S.rf
  have hl := lv_entry ([.ref x0, .int a1]) (n := 2) (Nat.le_of_ble_eq_true rfl)
  rw [lg_entry_eq]
  generalize (lg_sl ([.ref x0, .int a1]) ++ List.replicate (2 - (lg_sl ([.ref x0, .int a1])).length) Slot.unset).toArray = ls at hl ⊢
  have hl : lv_has ls 2 [(0, .ref x0), (1, .int a1)] := hl
  have he := f_X4_isPlausible.eq_1 xr gu a1
  replace hp := Eq.mp (p_X4_isPlausible.eq_1 ..) hp
  refine lv_iload_n hx hb dX4_isPlausible_0 rfl (lv_at hl 1 rfl) ?_
  refine k_xcallv (S := Unit) (px := fun E => f_X4_checkNode a1 = .inl E ∧ (E = eIO)) (wc := ([] : va_W)) (wr := (W_X4 cI x0 g0 g1 g2 g3 g4 l0 l1 l2 l3 l4 l5 t0 t1 t2 xr xt gn gu gb ga lc lk ln lt ll lr tw tn tt)) (w1 := fun u => ([] : va_W)) (fun u => (W_X4 cI x0 g0 g1 g2 g3 g4 l0 l1 l2 l3 l4 l5 t0 t1 t2 xr xt gn gu gb ga lc lk ln lt ll lr tw tn tt)) hP hK hD hN hXB hS hA [] [0, 1, 2, 3, 4, 5, 6, 7, 8, 9, 10, 11, 12, 13, 14] rfl rfl (by decide) (by decide) (by decide) [0, 1, 2, 3, 4, 5, 6, 7, 8, 9, 10, 11, 12, 13, 14] (by decide) (fun _ => rfl) rfl (fun hg => vx_runS (As := [.int a1]) (rest := []) ⟨hx, hb, hml, hown, hts⟩ (c_X4_checkNode l D cI _ a1 hst) (va_cwS 1 hts gX4_isPlausible_X4_checkNode rfl rfl rfl (by decide +kernel) ⟨Nat.le_of_ble_eq_true rfl, Nat.le_of_ble_eq_true rfl⟩) ⟨PX.blind, fun U hU hW => ⟨rfl, hg U hU hW⟩⟩ rfl rfl hl.1 rfl (lv_room (Nat.le_of_ble_eq_true rfl)) dX4_isPlausible_1 ⟨Nat.le_of_ble_eq_true rfl, Nat.le_of_ble_eq_true rfl⟩) (fun E ce q9 H locs hw hP hD hS hc9 hv9 hcl9 => ?_) (fun u H locs hw hP hD hS => ?_)
  · rw [hw.1] at he
    try dsimp only at he
    exact k_out (fun x hx => (ht x hx).elim) hlocks hP hK hD hS hc9 hv9 hcl9 (Nat.le_of_ble_eq_true rfl) (Nat.le_of_ble_eq_true rfl) ⟨he, hw.2⟩
  · rw [hw] at he
    try dsimp only at he
    replace hp := hp  hw
    refine lv_aload_n hx hb dX4_isPlausible_4 rfl (lv_at hl 0 rfl) ?_
    have hq2 := hp.1
    replace hp := hp.2
    refine k_callr (S := (Int32 × Int32) × (Nat)) (wc := (W_X4 cI x0 g0 g1 g2 g3 g4 l0 l1 l2 l3 l4 l5 t0 t1 t2 xr xt gn gu gb ga lc lk ln lt ll lr tw tn tt)) (wr := ([] : va_W)) (w1 := fun u => ((W_X4 cI x0 g0 g1 g2 g3 g4 l0 l1 l2 l3 l4 l5 t0 t1 t2 xr xt gn gu gb ga lc lk ln lt ll lr tw tn tt) ++ [(u.2, .inr (0, [.ref g0, .int u.1.1, .int u.1.2]))])) (ra := fun u => u.2) (fun u => ((W_X4 cI x0 g0 g1 g2 g3 g4 l0 l1 l2 l3 l4 l5 t0 t1 t2 xr xt gn gu gb ga lc lk ln lt ll lr tw tn tt) ++ [(u.2, .inr (0, [.ref g0, .int u.1.1, .int u.1.2]))])) hP hK hD hN hS hA [0, 1, 2, 3, 4, 5, 6, 7, 8, 9, 10, 11, 12, 13, 14] [] rfl rfl (by decide) (by decide) (by decide) [0, 1, 2, 3, 4, 5, 6, 7, 8, 9, 10, 11, 12, 13, 14, 15] (by decide) (fun _ => rfl) (fun hg => va_runV (As := []) (rest := []) ⟨hx, hb, hml, hown, hts⟩ (c_X4_diagnoser l D cI x0 g0 g1 g2 g3 g4 l0 l1 l2 l3 l4 l5 t0 t1 t2 xr xt gn gu gb ga lc lk ln lt ll lr tw tn tt _ hq2) (cwV 0 hts gX4_isPlausible_X4_diagnoser rfl rfl rfl (by decide +kernel) ⟨Nat.le_of_ble_eq_true rfl, Nat.le_of_ble_eq_true rfl⟩) ⟨PW.blind, va_recv hK hP (ci := 4) (q0 := 0) rfl rfl, fun U hU hW => ⟨rfl, hg U hU hW⟩⟩ rfl rfl hl.1 rfl (lv_room (Nat.le_of_ble_eq_true rfl)) dX4_isPlausible_5 ⟨Nat.le_of_ble_eq_true rfl, Nat.le_of_ble_eq_true rfl⟩) (fun u H locs hw hP hD hS => ?_)
    obtain ⟨⟨u2_0, u2_1⟩, n2_0⟩ := u
    try dsimp only at hw
    rw [hw] at he
    try dsimp only at he
    replace hp := hp u2_0 u2_1 hw
    have hP : va_P D vwCl ((W_X4 cI x0 g0 g1 g2 g3 g4 l0 l1 l2 l3 l4 l5 t0 t1 t2 xr xt gn gu gb ga lc lk ln lt ll lr tw tn tt) ++ [(n2_0, .inr (0, [.ref g0, .int u2_0, .int u2_1]))]) H := hP
    have hD : va_D A ((W_X4 cI x0 g0 g1 g2 g3 g4 l0 l1 l2 l3 l4 l5 t0 t1 t2 xr xt gn gu gb ga lc lk ln lt ll lr tw tn tt) ++ [(n2_0, .inr (0, [.ref g0, .int u2_0, .int u2_1]))]) := hD
    refine k_calli (S := Unit) (wc := (W_X0 cI n2_0 g0 g1 g2 g3 g4 u2_0 u2_1 gn gu gb ga)) (wr := ([(x0, .inr (4, [.ref g0, .ref l0, .ref t0, .int xr, .int xt]))] ++ (W_X2 cI l0 l1 l2 l3 l4 l5 lc lk ln lt ll lr) ++ (W_X3 cI t0 t1 t2 tw tn tt))) (w1 := fun u => (W_X0 cI n2_0 g0 g1 g2 g3 g4 u2_0 u2_1 gn gu gb ga)) (fun u => ((W_X4 cI x0 g0 g1 g2 g3 g4 l0 l1 l2 l3 l4 l5 t0 t1 t2 xr xt gn gu gb ga lc lk ln lt ll lr tw tn tt) ++ [(n2_0, .inr (0, [.ref g0, .int u2_0, .int u2_1]))])) hP hK hD hN hS hA [15, 1, 2, 3, 4, 5] [0, 6, 7, 8, 9, 10, 11, 12, 13, 14] rfl rfl (by decide) (by decide) (by decide) [0, 11, 12, 13, 14, 15, 1, 2, 3, 4, 5, 6, 7, 8, 9, 10] (by decide) (fun _ => rfl) (fun hg => va_runV (As := []) (rest := []) ⟨hx, hb, hml, hown, hts⟩ (c_X0_plausibleNodes l D cI n2_0 g0 g1 g2 g3 g4 u2_0 u2_1 gn gu gb ga _ ) (cwV 0 hts gX4_isPlausible_X0_plausibleNodes rfl rfl rfl (by decide +kernel) ⟨Nat.le_of_ble_eq_true rfl, Nat.le_of_ble_eq_true rfl⟩) ⟨PW.blind, va_recv hK hP (ci := 0) (q0 := 15) rfl rfl, fun U hU hW => ⟨rfl, hg U hU hW⟩⟩ rfl rfl hl.1 rfl (lv_room (Nat.le_of_ble_eq_true rfl)) dX4_isPlausible_8 ⟨Nat.le_of_ble_eq_true rfl, Nat.le_of_ble_eq_true rfl⟩) (fun r3 u H locs hw hP hD hS => ?_)
    subst hw
    refine lv_iload_n hx hb dX4_isPlausible_11 rfl (lv_at hl 1 rfl) ?_
    refine k_calli (S := Unit) (wc := ([] : va_W)) (wr := ((W_X4 cI x0 g0 g1 g2 g3 g4 l0 l1 l2 l3 l4 l5 t0 t1 t2 xr xt gn gu gb ga lc lk ln lt ll lr tw tn tt) ++ [(n2_0, .inr (0, [.ref g0, .int u2_0, .int u2_1]))])) (w1 := fun u => ([] : va_W)) (fun u => ((W_X4 cI x0 g0 g1 g2 g3 g4 l0 l1 l2 l3 l4 l5 t0 t1 t2 xr xt gn gu gb ga lc lk ln lt ll lr tw tn tt) ++ [(n2_0, .inr (0, [.ref g0, .int u2_0, .int u2_1]))])) hP hK hD hN hS hA [] [0, 1, 2, 3, 4, 5, 6, 7, 8, 9, 10, 11, 12, 13, 14, 15] rfl rfl (by decide) (by decide) (by decide) [0, 1, 2, 3, 4, 5, 6, 7, 8, 9, 10, 11, 12, 13, 14, 15] (by decide) (fun _ => rfl) (fun hg => va_runS (As := [.int (f_X0_plausibleNodes u2_1), .int a1]) (rest := []) ⟨hx, hb, hml, hown, hts⟩ (c_X4_has l D cI _ (f_X0_plausibleNodes u2_1) a1) (va_cwS 2 hts gX4_isPlausible_X4_has rfl rfl rfl (by decide +kernel) ⟨Nat.le_of_ble_eq_true rfl, Nat.le_of_ble_eq_true rfl⟩) ⟨PW.blind, fun U hU hW => ⟨rfl, hg U hU hW⟩⟩ rfl rfl hl.1 rfl (lv_room (Nat.le_of_ble_eq_true rfl)) dX4_isPlausible_12 ⟨Nat.le_of_ble_eq_true rfl, Nat.le_of_ble_eq_true rfl⟩) (fun r4 u H locs hw hP hD hS => ?_)
    obtain ⟨hw, hb4⟩ := hw
    subst hw
    have hP : va_P D vwCl (W_X4 cI x0 g0 g1 g2 g3 g4 l0 l1 l2 l3 l4 l5 t0 t1 t2 xr xt gn gu gb ga lc lk ln lt ll lr tw tn tt) H := hP.sub [0, 1, 2, 3, 4, 5, 6, 7, 8, 9, 10, 11, 12, 13, 14] rfl
    have hD : va_D A (W_X4 cI x0 g0 g1 g2 g3 g4 l0 l1 l2 l3 l4 l5 t0 t1 t2 xr xt gn gu gb ga lc lk ln lt ll lr tw tn tt) := hD.sub [0, 1, 2, 3, 4, 5, 6, 7, 8, 9, 10, 11, 12, 13, 14] (by decide) rfl
    refine vx_ret ?_
    exact W.zret (ty := .boolean) (v := (f_X4_has (f_X0_plausibleNodes u2_1) a1)) hx hb hr (by rcases hb4 with h9 | h9 <;> rw [h9] <;> rfl) (fun t ht hW => ⟨⟨(f_X4_has (f_X0_plausibleNodes u2_1) a1), (), rfl, ⟨he, hb4⟩, by rw [ht]; exact hP, va_K.moved hW.alike hK, hD⟩, hS.F ht⟩) hS.2.2 dX4_isPlausible_15
abbrev rm_X4_causes : Room := { frames := 22, cells := 1, slots := 3, locals := 655 }
abbrev Q_X4_causes (D : va_G) (cI : ClassId) (x0 g0 g1 g2 g3 g4 l0 l1 l2 l3 l4 l5 t0 t1 t2 : Nat) (xr : Int32) (xt : Int32) (gn : AA) (gu : AA) (gb : AA) (ga : AA) (lc : Int32) (lk : AA) (ln : AA) (lt : AA) (ll : AA) (lr : AA) (tw : Int32) (tn : AA) (tt : AA) (A : Nat → Prop) : Array Value → State → Outcome → State → Prop := va_Qi (S := Unit) (fun r u => f_X4_causes xr gu gb ga = r) (fun u t => QW D [(cI, .int)] A (W_X4 cI x0 g0 g1 g2 g3 g4 l0 l1 l2 l3 l4 l5 t0 t1 t2 xr xt gn gu gb ga lc lk ln lt ll lr tw tn tt) t) A
set_option maxHeartbeats 4000000 in
set_option maxRecDepth 100000 in
theorem c_X4_causes (l : Launch)  (D : va_G) (cI : ClassId) (x0 g0 g1 g2 g3 g4 l0 l1 l2 l3 l4 l5 t0 t1 t2 : Nat) (xr : Int32) (xt : Int32) (gn : AA) (gu : AA) (gb : AA) (ga : AA) (lc : Int32) (lk : AA) (ln : AA) (lt : AA) (ll : AA) (lr : AA) (tw : Int32) (tn : AA) (tt : AA) (sz : Nat) (hp : p_X4_causes xr gu gb ga) : Met l yX4_causes wsX4_causes rm_X4_causes (va_Pc [.ref x0] (PW D [(cI, .int)] sz (W_X4 cI x0 g0 g1 g2 g3 g4 l0 l1 l2 l3 l4 l5 t0 t1 t2 xr xt gn gu gb ga lc lk ln lt ll lr tw tn tt))) (Q_X4_causes D cI x0 g0 g1 g2 g3 g4 l0 l1 l2 l3 l4 l5 t0 t1 t2 xr xt gn gu gb ga lc lk ln lt ll lr tw tn tt (va_A (W_X4 cI x0 g0 g1 g2 g3 g4 l0 l1 l2 l3 l4 l5 t0 t1 t2 xr xt gn gu gb ga lc lk ln lt ll lr tw tn tt) sz)) 1 3 (va_A (W_X4 cI x0 g0 g1 g2 g3 g4 l0 l1 l2 l3 l4 l5 t0 t1 t2 xr xt gn gu gb ga lc lk ln lt ll lr tw tn tt) sz) := by
  refine Met.ofW (cc := cX4_causes) (maxL := 1) (ret := (some .int)) (by decide) rfl ?_
  intro p e s m args below meth c s₁ B hml hv
  obtain ⟨rfl, hsz, hP, hK, hD0, hN⟩ := hv
  have hx := B.exec
  have hb := B.bytes
  have hr := B.returns
  have hts := atoms_spec (ws := wsX4_causes) B.pre
  have hown : s.vm.findClass RX4 = some m.cls := findClass_of_methodNamed B.named
  have hlocks := B.notSynchronized
  subst hsz
  have hD := hD0.self (sz := s.heap.size)
  generalize hAe : va_A (W_X4 cI x0 g0 g1 g2 g3 g4 l0 l1 l2 l3 l4 l5 t0 t1 t2 xr xt gn gu gb ga lc lk ln lt ll lr tw tn tt) s.heap.size = A at hD ⊢
  have hA : ∀ q : Nat, s.heap.size ≤ q → A q := fun q h => by rw [← hAe]; exact Or.inr h
  have hS : va_S A s.heap s.heap [] := va_S.rf
  have hl := lv_entry ([.ref x0]) (n := 1) (Nat.le_of_ble_eq_true rfl)
  rw [lg_entry_eq]
  generalize (lg_sl ([.ref x0]) ++ List.replicate (1 - (lg_sl ([.ref x0])).length) Slot.unset).toArray = ls at hl ⊢
  have hl : lv_has ls 1 [(0, .ref x0)] := hl
  have he := f_X4_causes.eq_1 xr gu gb ga
  replace hp := Eq.mp (p_X4_causes.eq_1 ..) hp
  refine lv_aload_n hx hb dX4_causes_0 rfl (lv_at hl 0 rfl) ?_
  have hq1 := hp.1
  replace hp := hp.2
  refine k_callr (S := (Int32 × Int32) × (Nat)) (wc := (W_X4 cI x0 g0 g1 g2 g3 g4 l0 l1 l2 l3 l4 l5 t0 t1 t2 xr xt gn gu gb ga lc lk ln lt ll lr tw tn tt)) (wr := ([] : va_W)) (w1 := fun u => ((W_X4 cI x0 g0 g1 g2 g3 g4 l0 l1 l2 l3 l4 l5 t0 t1 t2 xr xt gn gu gb ga lc lk ln lt ll lr tw tn tt) ++ [(u.2, .inr (0, [.ref g0, .int u.1.1, .int u.1.2]))])) (ra := fun u => u.2) (fun u => ((W_X4 cI x0 g0 g1 g2 g3 g4 l0 l1 l2 l3 l4 l5 t0 t1 t2 xr xt gn gu gb ga lc lk ln lt ll lr tw tn tt) ++ [(u.2, .inr (0, [.ref g0, .int u.1.1, .int u.1.2]))])) hP hK hD hN hS hA [0, 1, 2, 3, 4, 5, 6, 7, 8, 9, 10, 11, 12, 13, 14] [] rfl rfl (by decide) (by decide) (by decide) [0, 1, 2, 3, 4, 5, 6, 7, 8, 9, 10, 11, 12, 13, 14, 15] (by decide) (fun _ => rfl) (fun hg => va_runV (As := []) (rest := []) ⟨hx, hb, hml, hown, hts⟩ (c_X4_diagnoser l D cI x0 g0 g1 g2 g3 g4 l0 l1 l2 l3 l4 l5 t0 t1 t2 xr xt gn gu gb ga lc lk ln lt ll lr tw tn tt _ hq1) (cwV 0 hts gX4_causes_X4_diagnoser rfl rfl rfl (by decide +kernel) ⟨Nat.le_of_ble_eq_true rfl, Nat.le_of_ble_eq_true rfl⟩) ⟨PW.blind, va_recv hK hP (ci := 4) (q0 := 0) rfl rfl, fun U hU hW => ⟨rfl, hg U hU hW⟩⟩ rfl rfl hl.1 rfl (lv_room (Nat.le_of_ble_eq_true rfl)) dX4_causes_1 ⟨Nat.le_of_ble_eq_true rfl, Nat.le_of_ble_eq_true rfl⟩) (fun u H locs hw hP hD hS => ?_)
  obtain ⟨⟨u1_0, u1_1⟩, n1_0⟩ := u
  try dsimp only at hw
  rw [hw] at he
  try dsimp only at he
  replace hp := hp u1_0 u1_1 hw
  have hP : va_P D vwCl ((W_X4 cI x0 g0 g1 g2 g3 g4 l0 l1 l2 l3 l4 l5 t0 t1 t2 xr xt gn gu gb ga lc lk ln lt ll lr tw tn tt) ++ [(n1_0, .inr (0, [.ref g0, .int u1_0, .int u1_1]))]) H := hP
  have hD : va_D A ((W_X4 cI x0 g0 g1 g2 g3 g4 l0 l1 l2 l3 l4 l5 t0 t1 t2 xr xt gn gu gb ga lc lk ln lt ll lr tw tn tt) ++ [(n1_0, .inr (0, [.ref g0, .int u1_0, .int u1_1]))]) := hD
  have hq2 := hp.1
  replace hp := hp.2
  refine k_calli (S := Unit) (wc := (W_X0 cI n1_0 g0 g1 g2 g3 g4 u1_0 u1_1 gn gu gb ga)) (wr := ([(x0, .inr (4, [.ref g0, .ref l0, .ref t0, .int xr, .int xt]))] ++ (W_X2 cI l0 l1 l2 l3 l4 l5 lc lk ln lt ll lr) ++ (W_X3 cI t0 t1 t2 tw tn tt))) (w1 := fun u => (W_X0 cI n1_0 g0 g1 g2 g3 g4 u1_0 u1_1 gn gu gb ga)) (fun u => ((W_X4 cI x0 g0 g1 g2 g3 g4 l0 l1 l2 l3 l4 l5 t0 t1 t2 xr xt gn gu gb ga lc lk ln lt ll lr tw tn tt) ++ [(n1_0, .inr (0, [.ref g0, .int u1_0, .int u1_1]))])) hP hK hD hN hS hA [15, 1, 2, 3, 4, 5] [0, 6, 7, 8, 9, 10, 11, 12, 13, 14] rfl rfl (by decide) (by decide) (by decide) [0, 11, 12, 13, 14, 15, 1, 2, 3, 4, 5, 6, 7, 8, 9, 10] (by decide) (fun _ => rfl) (fun hg => va_runV (As := []) (rest := []) ⟨hx, hb, hml, hown, hts⟩ (c_X0_bestBySearch l D cI n1_0 g0 g1 g2 g3 g4 u1_0 u1_1 gn gu gb ga _ hq2) (cwV 0 hts gX4_causes_X0_bestBySearch rfl rfl rfl (by decide +kernel) ⟨Nat.le_of_ble_eq_true rfl, Nat.le_of_ble_eq_true rfl⟩) ⟨PW.blind, va_recv hK hP (ci := 0) (q0 := 15) rfl rfl, fun U hU hW => ⟨rfl, hg U hU hW⟩⟩ rfl rfl hl.1 rfl (lv_room (Nat.le_of_ble_eq_true rfl)) dX4_causes_4 ⟨Nat.le_of_ble_eq_true rfl, Nat.le_of_ble_eq_true rfl⟩) (fun r2 u H locs hw hP hD hS => ?_)
  subst hw
  refine k_calli (S := Unit) (wc := ([] : va_W)) (wr := ((W_X4 cI x0 g0 g1 g2 g3 g4 l0 l1 l2 l3 l4 l5 t0 t1 t2 xr xt gn gu gb ga lc lk ln lt ll lr tw tn tt) ++ [(n1_0, .inr (0, [.ref g0, .int u1_0, .int u1_1]))])) (w1 := fun u => ([] : va_W)) (fun u => ((W_X4 cI x0 g0 g1 g2 g3 g4 l0 l1 l2 l3 l4 l5 t0 t1 t2 xr xt gn gu gb ga lc lk ln lt ll lr tw tn tt) ++ [(n1_0, .inr (0, [.ref g0, .int u1_0, .int u1_1]))])) hP hK hD hN hS hA [] [0, 1, 2, 3, 4, 5, 6, 7, 8, 9, 10, 11, 12, 13, 14, 15] rfl rfl (by decide) (by decide) (by decide) [0, 1, 2, 3, 4, 5, 6, 7, 8, 9, 10, 11, 12, 13, 14, 15] (by decide) (fun _ => rfl) (fun hg => va_runS (As := [.int (f_X0_bestBySearch u1_0 u1_1 gb ga)]) (rest := []) ⟨hx, hb, hml, hown, hts⟩ (c_J6_bitCount_0f7a4 l D cI _ (f_X0_bestBySearch u1_0 u1_1 gb ga)) (va_cwS 1 hts gX4_causes_J6_bitCount_0f7a4 rfl rfl rfl (by decide +kernel) ⟨Nat.le_of_ble_eq_true rfl, Nat.le_of_ble_eq_true rfl⟩) ⟨PW.blind, fun U hU hW => ⟨rfl, hg U hU hW⟩⟩ rfl rfl hl.1 rfl (lv_room (Nat.le_of_ble_eq_true rfl)) dX4_causes_7 ⟨Nat.le_of_ble_eq_true rfl, Nat.le_of_ble_eq_true rfl⟩) (fun r3 u H locs hw hP hD hS => ?_)
  subst hw
  have hP : va_P D vwCl (W_X4 cI x0 g0 g1 g2 g3 g4 l0 l1 l2 l3 l4 l5 t0 t1 t2 xr xt gn gu gb ga lc lk ln lt ll lr tw tn tt) H := hP.sub [0, 1, 2, 3, 4, 5, 6, 7, 8, 9, 10, 11, 12, 13, 14] rfl
  have hD : va_D A (W_X4 cI x0 g0 g1 g2 g3 g4 l0 l1 l2 l3 l4 l5 t0 t1 t2 xr xt gn gu gb ga lc lk ln lt ll lr tw tn tt) := hD.sub [0, 1, 2, 3, 4, 5, 6, 7, 8, 9, 10, 11, 12, 13, 14] (by decide) rfl
  exact W.iret (v := (f_J6_bitCount_0f7a4 (f_X0_bestBySearch u1_0 u1_1 gb ga))) hx hb hr (fun t ht hW => ⟨⟨(f_J6_bitCount_0f7a4 (f_X0_bestBySearch u1_0 u1_1 gb ga)), (), rfl, he, by rw [ht]; exact hP, va_K.moved hW.alike hK, hD⟩, hS.F ht⟩) hS.2.2 dX4_causes_10
abbrev rm_X4_cause : Room := { frames := 22, cells := 2, slots := 9, locals := 655 }
abbrev Q_X4_cause (D : va_G) (cI : ClassId) (x0 g0 g1 g2 g3 g4 l0 l1 l2 l3 l4 l5 t0 t1 t2 : Nat) (xr : Int32) (xt : Int32) (gn : AA) (gu : AA) (gb : AA) (ga : AA) (lc : Int32) (lk : AA) (ln : AA) (lt : AA) (ll : AA) (lr : AA) (tw : Int32) (tn : AA) (tt : AA) (a1 : Int32) (A : Nat → Prop) : Array Value → State → Outcome → State → Prop := va_Qi (S := Unit) (fun r u => f_X4_cause xr gu gb ga a1 = .inr r) (fun u t => QW D [(cI, .int)] A (W_X4 cI x0 g0 g1 g2 g3 g4 l0 l1 l2 l3 l4 l5 t0 t1 t2 xr xt gn gu gb ga lc lk ln lt ll lr tw tn tt) t) A
abbrev X_X4_cause (D : va_G) (cI : ClassId) (x0 g0 g1 g2 g3 g4 l0 l1 l2 l3 l4 l5 t0 t1 t2 : Nat) (xr : Int32) (xt : Int32) (gn : AA) (gu : AA) (gb : AA) (ga : AA) (lc : Int32) (lk : AA) (ln : AA) (lt : AA) (ll : AA) (lr : AA) (tw : Int32) (tn : AA) (tt : AA) (a1 : Int32) (A : Nat → Prop) : String → State → State → Prop := vx_X (fun _ : Unit => True) (fun E _ t => (f_X4_cause xr gu gb ga a1 = .inl E ∧ (E = eIO)) ∧ QW D [(cI, .int)] A (W_X4 cI x0 g0 g1 g2 g3 g4 l0 l1 l2 l3 l4 l5 t0 t1 t2 xr xt gn gu gb ga lc lk ln lt ll lr tw tn tt) t) A
set_option maxHeartbeats 4000000 in
set_option maxRecDepth 100000 in
theorem c_X4_cause (l : Launch)  (D : va_G) (cI : ClassId) (x0 g0 g1 g2 g3 g4 l0 l1 l2 l3 l4 l5 t0 t1 t2 : Nat) (xr : Int32) (xt : Int32) (gn : AA) (gu : AA) (gb : AA) (ga : AA) (lc : Int32) (lk : AA) (ln : AA) (lt : AA) (ll : AA) (lr : AA) (tw : Int32) (tn : AA) (tt : AA) (sz : Nat) (a1 : Int32) (hp : p_X4_cause xr gu gb ga a1) (hst : l.stackTraces = false) : vx_Met l yX4_cause wsX4_cause rm_X4_cause (va_Pc [.ref x0, .int a1] (PX D [(cI, .int)] sz (W_X4 cI x0 g0 g1 g2 g3 g4 l0 l1 l2 l3 l4 l5 t0 t1 t2 xr xt gn gu gb ga lc lk ln lt ll lr tw tn tt))) (Q_X4_cause D cI x0 g0 g1 g2 g3 g4 l0 l1 l2 l3 l4 l5 t0 t1 t2 xr xt gn gu gb ga lc lk ln lt ll lr tw tn tt a1 (va_A (W_X4 cI x0 g0 g1 g2 g3 g4 l0 l1 l2 l3 l4 l5 t0 t1 t2 xr xt gn gu gb ga lc lk ln lt ll lr tw tn tt) sz)) (X_X4_cause D cI x0 g0 g1 g2 g3 g4 l0 l1 l2 l3 l4 l5 t0 t1 t2 xr xt gn gu gb ga lc lk ln lt ll lr tw tn tt a1 (va_A (W_X4 cI x0 g0 g1 g2 g3 g4 l0 l1 l2 l3 l4 l5 t0 t1 t2 xr xt gn gu gb ga lc lk ln lt ll lr tw tn tt) sz)) 2 9 (va_A (W_X4 cI x0 g0 g1 g2 g3 g4 l0 l1 l2 l3 l4 l5 t0 t1 t2 xr xt gn gu gb ga lc lk ln lt ll lr tw tn tt) sz) := by
  refine vx_ofW (cc := cX4_cause) (maxL := 2) (ret := (some .int)) (by decide) rfl ?_
  intro p e s m args below meth c s₁ B hml ht hv
  obtain ⟨rfl, ⟨hsz, hP, hK, hD0, hN⟩, hXB⟩ := hv
  have hx := B.exec
  have hb := B.bytes
  have hr := B.returns
  have hts := atoms_spec (ws := wsX4_cause) B.pre
  have hown : s.vm.findClass RX4 = some m.cls := findClass_of_methodNamed B.named
  have hlocks := B.notSynchronized
  subst hsz
  have hD := hD0.self (sz := s.heap.size)
  generalize hAe : va_A (W_X4 cI x0 g0 g1 g2 g3 g4 l0 l1 l2 l3 l4 l5 t0 t1 t2 xr xt gn gu gb ga lc lk ln lt ll lr tw tn tt) s.heap.size = A at hD hXB ⊢
  have hA : ∀ q : Nat, s.heap.size ≤ q → A q := fun q h => by rw [← hAe]; exact Or.inr h
  have hS : va_S A s.heap s.heap [] := va_S.rf
  have hl := lv_entry ([.ref x0, .int a1]) (n := 2) (Nat.le_of_ble_eq_true rfl)
  rw [lg_entry_eq]
  generalize (lg_sl ([.ref x0, .int a1]) ++ List.replicate (2 - (lg_sl ([.ref x0, .int a1])).length) Slot.unset).toArray = ls at hl ⊢
  have hl : lv_has ls 2 [(0, .ref x0), (1, .int a1)] := hl
  have he := f_X4_cause.eq_1 xr gu gb ga a1
  replace hp := Eq.mp (p_X4_cause.eq_1 ..) hp
  refine lv_aload_n hx hb dX4_cause_0 rfl (lv_at hl 0 rfl) ?_
  have hq1 := hp.1
  replace hp := hp.2
  refine k_callr (S := (Int32 × Int32) × (Nat)) (wc := (W_X4 cI x0 g0 g1 g2 g3 g4 l0 l1 l2 l3 l4 l5 t0 t1 t2 xr xt gn gu gb ga lc lk ln lt ll lr tw tn tt)) (wr := ([] : va_W)) (w1 := fun u => ((W_X4 cI x0 g0 g1 g2 g3 g4 l0 l1 l2 l3 l4 l5 t0 t1 t2 xr xt gn gu gb ga lc lk ln lt ll lr tw tn tt) ++ [(u.2, .inr (0, [.ref g0, .int u.1.1, .int u.1.2]))])) (ra := fun u => u.2) (fun u => ((W_X4 cI x0 g0 g1 g2 g3 g4 l0 l1 l2 l3 l4 l5 t0 t1 t2 xr xt gn gu gb ga lc lk ln lt ll lr tw tn tt) ++ [(u.2, .inr (0, [.ref g0, .int u.1.1, .int u.1.2]))])) hP hK hD hN hS hA [0, 1, 2, 3, 4, 5, 6, 7, 8, 9, 10, 11, 12, 13, 14] [] rfl rfl (by decide) (by decide) (by decide) [0, 1, 2, 3, 4, 5, 6, 7, 8, 9, 10, 11, 12, 13, 14, 15] (by decide) (fun _ => rfl) (fun hg => va_runV (As := []) (rest := []) ⟨hx, hb, hml, hown, hts⟩ (c_X4_diagnoser l D cI x0 g0 g1 g2 g3 g4 l0 l1 l2 l3 l4 l5 t0 t1 t2 xr xt gn gu gb ga lc lk ln lt ll lr tw tn tt _ hq1) (cwV 0 hts gX4_cause_X4_diagnoser rfl rfl rfl (by decide +kernel) ⟨Nat.le_of_ble_eq_true rfl, Nat.le_of_ble_eq_true rfl⟩) ⟨PW.blind, va_recv hK hP (ci := 4) (q0 := 0) rfl rfl, fun U hU hW => ⟨rfl, hg U hU hW⟩⟩ rfl rfl hl.1 rfl (lv_room (Nat.le_of_ble_eq_true rfl)) dX4_cause_1 ⟨Nat.le_of_ble_eq_true rfl, Nat.le_of_ble_eq_true rfl⟩) (fun u H locs hw hP hD hS => ?_)
  obtain ⟨⟨u1_0, u1_1⟩, n1_0⟩ := u
  try dsimp only at hw
  rw [hw] at he
  try dsimp only at he
  replace hp := hp u1_0 u1_1 hw
  have hP : va_P D vwCl ((W_X4 cI x0 g0 g1 g2 g3 g4 l0 l1 l2 l3 l4 l5 t0 t1 t2 xr xt gn gu gb ga lc lk ln lt ll lr tw tn tt) ++ [(n1_0, .inr (0, [.ref g0, .int u1_0, .int u1_1]))]) H := hP
  have hD : va_D A ((W_X4 cI x0 g0 g1 g2 g3 g4 l0 l1 l2 l3 l4 l5 t0 t1 t2 xr xt gn gu gb ga lc lk ln lt ll lr tw tn tt) ++ [(n1_0, .inr (0, [.ref g0, .int u1_0, .int u1_1]))]) := hD
  have hq2 := hp.1
  replace hp := hp.2
  refine k_calli (S := Unit) (wc := (W_X0 cI n1_0 g0 g1 g2 g3 g4 u1_0 u1_1 gn gu gb ga)) (wr := ([(x0, .inr (4, [.ref g0, .ref l0, .ref t0, .int xr, .int xt]))] ++ (W_X2 cI l0 l1 l2 l3 l4 l5 lc lk ln lt ll lr) ++ (W_X3 cI t0 t1 t2 tw tn tt))) (w1 := fun u => (W_X0 cI n1_0 g0 g1 g2 g3 g4 u1_0 u1_1 gn gu gb ga)) (fun u => ((W_X4 cI x0 g0 g1 g2 g3 g4 l0 l1 l2 l3 l4 l5 t0 t1 t2 xr xt gn gu gb ga lc lk ln lt ll lr tw tn tt) ++ [(n1_0, .inr (0, [.ref g0, .int u1_0, .int u1_1]))])) hP hK hD hN hS hA [15, 1, 2, 3, 4, 5] [0, 6, 7, 8, 9, 10, 11, 12, 13, 14] rfl rfl (by decide) (by decide) (by decide) [0, 11, 12, 13, 14, 15, 1, 2, 3, 4, 5, 6, 7, 8, 9, 10] (by decide) (fun _ => rfl) (fun hg => va_runV (As := []) (rest := []) ⟨hx, hb, hml, hown, hts⟩ (c_X0_bestBySearch l D cI n1_0 g0 g1 g2 g3 g4 u1_0 u1_1 gn gu gb ga _ hq2) (cwV 0 hts gX4_cause_X0_bestBySearch rfl rfl rfl (by decide +kernel) ⟨Nat.le_of_ble_eq_true rfl, Nat.le_of_ble_eq_true rfl⟩) ⟨PW.blind, va_recv hK hP (ci := 0) (q0 := 15) rfl rfl, fun U hU hW => ⟨rfl, hg U hU hW⟩⟩ rfl rfl hl.1 rfl (lv_room (Nat.le_of_ble_eq_true rfl)) dX4_cause_4 ⟨Nat.le_of_ble_eq_true rfl, Nat.le_of_ble_eq_true rfl⟩) (fun r2 u H locs hw hP hD hS => ?_)
  subst hw
  refine lv_iload_n hx hb dX4_cause_7 rfl (lv_at hl 1 rfl) ?_
  have hq3 := hp.1
  replace hp := hp.2
  refine k_xcalli (S := Unit) (px := fun E => f_X4_nodeThere (f_X0_bestBySearch u1_0 u1_1 gb ga) a1 = .inl E ∧ (E = eIO)) (wc := ([] : va_W)) (wr := ((W_X4 cI x0 g0 g1 g2 g3 g4 l0 l1 l2 l3 l4 l5 t0 t1 t2 xr xt gn gu gb ga lc lk ln lt ll lr tw tn tt) ++ [(n1_0, .inr (0, [.ref g0, .int u1_0, .int u1_1]))])) (w1 := fun u => ([] : va_W)) (fun u => ((W_X4 cI x0 g0 g1 g2 g3 g4 l0 l1 l2 l3 l4 l5 t0 t1 t2 xr xt gn gu gb ga lc lk ln lt ll lr tw tn tt) ++ [(n1_0, .inr (0, [.ref g0, .int u1_0, .int u1_1]))])) hP hK hD hN hXB hS hA [] [0, 1, 2, 3, 4, 5, 6, 7, 8, 9, 10, 11, 12, 13, 14, 15] rfl rfl (by decide) (by decide) (by decide) [0, 1, 2, 3, 4, 5, 6, 7, 8, 9, 10, 11, 12, 13, 14, 15] (by decide) (fun _ => rfl) rfl (fun hg => vx_runS (As := [.int (f_X0_bestBySearch u1_0 u1_1 gb ga), .int a1]) (rest := []) ⟨hx, hb, hml, hown, hts⟩ (c_X4_nodeThere l D cI _ (f_X0_bestBySearch u1_0 u1_1 gb ga) a1 hq3 hst) (va_cwS 2 hts gX4_cause_X4_nodeThere rfl rfl rfl (by decide +kernel) ⟨Nat.le_of_ble_eq_true rfl, Nat.le_of_ble_eq_true rfl⟩) ⟨PX.blind, fun U hU hW => ⟨rfl, hg U hU hW⟩⟩ rfl rfl hl.1 rfl (lv_room (Nat.le_of_ble_eq_true rfl)) dX4_cause_8 ⟨Nat.le_of_ble_eq_true rfl, Nat.le_of_ble_eq_true rfl⟩) (fun E ce q9 H locs hw hP hD hS hc9 hv9 hcl9 => ?_) (fun r3 u H locs hw hP hD hS => ?_)
  · rw [hw.1] at he
    try dsimp only at he
    have hP : va_P D vwCl (W_X4 cI x0 g0 g1 g2 g3 g4 l0 l1 l2 l3 l4 l5 t0 t1 t2 xr xt gn gu gb ga lc lk ln lt ll lr tw tn tt) H := hP.sub [0, 1, 2, 3, 4, 5, 6, 7, 8, 9, 10, 11, 12, 13, 14] rfl
    have hD : va_D A (W_X4 cI x0 g0 g1 g2 g3 g4 l0 l1 l2 l3 l4 l5 t0 t1 t2 xr xt gn gu gb ga lc lk ln lt ll lr tw tn tt) := hD.sub [0, 1, 2, 3, 4, 5, 6, 7, 8, 9, 10, 11, 12, 13, 14] (by decide) rfl
    exact k_out (fun x hx => (ht x hx).elim) hlocks hP hK hD hS hc9 hv9 hcl9 (Nat.le_of_ble_eq_true rfl) (Nat.le_of_ble_eq_true rfl) ⟨he, hw.2⟩
  · rw [hw] at he
    try dsimp only at he
    replace hp := hp r3 hw
    have hP : va_P D vwCl (W_X4 cI x0 g0 g1 g2 g3 g4 l0 l1 l2 l3 l4 l5 t0 t1 t2 xr xt gn gu gb ga lc lk ln lt ll lr tw tn tt) H := hP.sub [0, 1, 2, 3, 4, 5, 6, 7, 8, 9, 10, 11, 12, 13, 14] rfl
    have hD : va_D A (W_X4 cI x0 g0 g1 g2 g3 g4 l0 l1 l2 l3 l4 l5 t0 t1 t2 xr xt gn gu gb ga lc lk ln lt ll lr tw tn tt) := hD.sub [0, 1, 2, 3, 4, 5, 6, 7, 8, 9, 10, 11, 12, 13, 14] (by decide) rfl
    refine vx_ret ?_
    exact W.iret (v := r3) hx hb hr (fun t ht hW => ⟨⟨r3, (), rfl, he, by rw [ht]; exact hP, va_K.moved hW.alike hK, hD⟩, hS.F ht⟩) hS.2.2 dX4_cause_11
abbrev rm_X4_causeByTrying : Room := { frames := 7, cells := 2, slots := 9, locals := 115 }
abbrev Q_X4_causeByTrying (D : va_G) (cI : ClassId) (x0 g0 g1 g2 g3 g4 l0 l1 l2 l3 l4 l5 t0 t1 t2 : Nat) (xr : Int32) (xt : Int32) (gn : AA) (gu : AA) (gb : AA) (ga : AA) (lc : Int32) (lk : AA) (ln : AA) (lt : AA) (ll : AA) (lr : AA) (tw : Int32) (tn : AA) (tt : AA) (a1 : Int32) (A : Nat → Prop) : Array Value → State → Outcome → State → Prop := va_Qi (S := Unit) (fun r u => f_X4_causeByTrying xr gu gb a1 = .inr r) (fun u t => QW D [(cI, .int)] A (W_X4 cI x0 g0 g1 g2 g3 g4 l0 l1 l2 l3 l4 l5 t0 t1 t2 xr xt gn gu gb ga lc lk ln lt ll lr tw tn tt) t) A
abbrev X_X4_causeByTrying (D : va_G) (cI : ClassId) (x0 g0 g1 g2 g3 g4 l0 l1 l2 l3 l4 l5 t0 t1 t2 : Nat) (xr : Int32) (xt : Int32) (gn : AA) (gu : AA) (gb : AA) (ga : AA) (lc : Int32) (lk : AA) (ln : AA) (lt : AA) (ll : AA) (lr : AA) (tw : Int32) (tn : AA) (tt : AA) (a1 : Int32) (A : Nat → Prop) : String → State → State → Prop := vx_X (fun _ : Unit => True) (fun E _ t => (f_X4_causeByTrying xr gu gb a1 = .inl E ∧ (E = eIO)) ∧ QW D [(cI, .int)] A (W_X4 cI x0 g0 g1 g2 g3 g4 l0 l1 l2 l3 l4 l5 t0 t1 t2 xr xt gn gu gb ga lc lk ln lt ll lr tw tn tt) t) A
set_option maxHeartbeats 4000000 in
set_option maxRecDepth 100000 in
theorem c_X4_causeByTrying (l : Launch)  (D : va_G) (cI : ClassId) (x0 g0 g1 g2 g3 g4 l0 l1 l2 l3 l4 l5 t0 t1 t2 : Nat) (xr : Int32) (xt : Int32) (gn : AA) (gu : AA) (gb : AA) (ga : AA) (lc : Int32) (lk : AA) (ln : AA) (lt : AA) (ll : AA) (lr : AA) (tw : Int32) (tn : AA) (tt : AA) (sz : Nat) (a1 : Int32) (hp : p_X4_causeByTrying xr gu gb a1) (hst : l.stackTraces = false) : vx_Met l yX4_causeByTrying wsX4_causeByTrying rm_X4_causeByTrying (va_Pc [.ref x0, .int a1] (PX D [(cI, .int)] sz (W_X4 cI x0 g0 g1 g2 g3 g4 l0 l1 l2 l3 l4 l5 t0 t1 t2 xr xt gn gu gb ga lc lk ln lt ll lr tw tn tt))) (Q_X4_causeByTrying D cI x0 g0 g1 g2 g3 g4 l0 l1 l2 l3 l4 l5 t0 t1 t2 xr xt gn gu gb ga lc lk ln lt ll lr tw tn tt a1 (va_A (W_X4 cI x0 g0 g1 g2 g3 g4 l0 l1 l2 l3 l4 l5 t0 t1 t2 xr xt gn gu gb ga lc lk ln lt ll lr tw tn tt) sz)) (X_X4_causeByTrying D cI x0 g0 g1 g2 g3 g4 l0 l1 l2 l3 l4 l5 t0 t1 t2 xr xt gn gu gb ga lc lk ln lt ll lr tw tn tt a1 (va_A (W_X4 cI x0 g0 g1 g2 g3 g4 l0 l1 l2 l3 l4 l5 t0 t1 t2 xr xt gn gu gb ga lc lk ln lt ll lr tw tn tt) sz)) 2 9 (va_A (W_X4 cI x0 g0 g1 g2 g3 g4 l0 l1 l2 l3 l4 l5 t0 t1 t2 xr xt gn gu gb ga lc lk ln lt ll lr tw tn tt) sz) := by
  refine vx_ofW (cc := cX4_causeByTrying) (maxL := 2) (ret := (some .int)) (by decide) rfl ?_
  intro p e s m args below meth c s₁ B hml ht hv
  obtain ⟨rfl, ⟨hsz, hP, hK, hD0, hN⟩, hXB⟩ := hv
  have hx := B.exec
  have hb := B.bytes
  have hr := B.returns
  have hts := atoms_spec (ws := wsX4_causeByTrying) B.pre
  have hown : s.vm.findClass RX4 = some m.cls := findClass_of_methodNamed B.named
  have hlocks := B.notSynchronized
  subst hsz
  have hD := hD0.self (sz := s.heap.size)
  generalize hAe : va_A (W_X4 cI x0 g0 g1 g2 g3 g4 l0 l1 l2 l3 l4 l5 t0 t1 t2 xr xt gn gu gb ga lc lk ln lt ll lr tw tn tt) s.heap.size = A at hD hXB ⊢
  have hA : ∀ q : Nat, s.heap.size ≤ q → A q := fun q h => by rw [← hAe]; exact Or.inr h
  have hS : va_S A s.heap s.heap [] := va_S.rf
  have hl := lv_entry ([.ref x0, .int a1]) (n := 2) (Nat.le_of_ble_eq_true rfl)
  rw [lg_entry_eq]
  generalize (lg_sl ([.ref x0, .int a1]) ++ List.replicate (2 - (lg_sl ([.ref x0, .int a1])).length) Slot.unset).toArray = ls at hl ⊢
  have hl : lv_has ls 2 [(0, .ref x0), (1, .int a1)] := hl
  have he := f_X4_causeByTrying.eq_1 xr gu gb a1
  replace hp := Eq.mp (p_X4_causeByTrying.eq_1 ..) hp
  refine lv_aload_n hx hb dX4_causeByTrying_0 rfl (lv_at hl 0 rfl) ?_
  have hq1 := hp.1
  replace hp := hp.2
  refine k_callr (S := (Int32 × Int32) × (Nat)) (wc := (W_X4 cI x0 g0 g1 g2 g3 g4 l0 l1 l2 l3 l4 l5 t0 t1 t2 xr xt gn gu gb ga lc lk ln lt ll lr tw tn tt)) (wr := ([] : va_W)) (w1 := fun u => ((W_X4 cI x0 g0 g1 g2 g3 g4 l0 l1 l2 l3 l4 l5 t0 t1 t2 xr xt gn gu gb ga lc lk ln lt ll lr tw tn tt) ++ [(u.2, .inr (0, [.ref g0, .int u.1.1, .int u.1.2]))])) (ra := fun u => u.2) (fun u => ((W_X4 cI x0 g0 g1 g2 g3 g4 l0 l1 l2 l3 l4 l5 t0 t1 t2 xr xt gn gu gb ga lc lk ln lt ll lr tw tn tt) ++ [(u.2, .inr (0, [.ref g0, .int u.1.1, .int u.1.2]))])) hP hK hD hN hS hA [0, 1, 2, 3, 4, 5, 6, 7, 8, 9, 10, 11, 12, 13, 14] [] rfl rfl (by decide) (by decide) (by decide) [0, 1, 2, 3, 4, 5, 6, 7, 8, 9, 10, 11, 12, 13, 14, 15] (by decide) (fun _ => rfl) (fun hg => va_runV (As := []) (rest := []) ⟨hx, hb, hml, hown, hts⟩ (c_X4_diagnoser l D cI x0 g0 g1 g2 g3 g4 l0 l1 l2 l3 l4 l5 t0 t1 t2 xr xt gn gu gb ga lc lk ln lt ll lr tw tn tt _ hq1) (cwV 0 hts gX4_causeByTrying_X4_diagnoser rfl rfl rfl (by decide +kernel) ⟨Nat.le_of_ble_eq_true rfl, Nat.le_of_ble_eq_true rfl⟩) ⟨PW.blind, va_recv hK hP (ci := 4) (q0 := 0) rfl rfl, fun U hU hW => ⟨rfl, hg U hU hW⟩⟩ rfl rfl hl.1 rfl (lv_room (Nat.le_of_ble_eq_true rfl)) dX4_causeByTrying_1 ⟨Nat.le_of_ble_eq_true rfl, Nat.le_of_ble_eq_true rfl⟩) (fun u H locs hw hP hD hS => ?_)
  obtain ⟨⟨u1_0, u1_1⟩, n1_0⟩ := u
  try dsimp only at hw
  rw [hw] at he
  try dsimp only at he
  replace hp := hp u1_0 u1_1 hw
  have hP : va_P D vwCl ((W_X4 cI x0 g0 g1 g2 g3 g4 l0 l1 l2 l3 l4 l5 t0 t1 t2 xr xt gn gu gb ga lc lk ln lt ll lr tw tn tt) ++ [(n1_0, .inr (0, [.ref g0, .int u1_0, .int u1_1]))]) H := hP
  have hD : va_D A ((W_X4 cI x0 g0 g1 g2 g3 g4 l0 l1 l2 l3 l4 l5 t0 t1 t2 xr xt gn gu gb ga lc lk ln lt ll lr tw tn tt) ++ [(n1_0, .inr (0, [.ref g0, .int u1_0, .int u1_1]))]) := hD
  have hq2 := hp.1
  replace hp := hp.2
  refine k_calli (S := Unit) (wc := (W_X0 cI n1_0 g0 g1 g2 g3 g4 u1_0 u1_1 gn gu gb ga)) (wr := ([(x0, .inr (4, [.ref g0, .ref l0, .ref t0, .int xr, .int xt]))] ++ (W_X2 cI l0 l1 l2 l3 l4 l5 lc lk ln lt ll lr) ++ (W_X3 cI t0 t1 t2 tw tn tt))) (w1 := fun u => (W_X0 cI n1_0 g0 g1 g2 g3 g4 u1_0 u1_1 gn gu gb ga)) (fun u => ((W_X4 cI x0 g0 g1 g2 g3 g4 l0 l1 l2 l3 l4 l5 t0 t1 t2 xr xt gn gu gb ga lc lk ln lt ll lr tw tn tt) ++ [(n1_0, .inr (0, [.ref g0, .int u1_0, .int u1_1]))])) hP hK hD hN hS hA [15, 1, 2, 3, 4, 5] [0, 6, 7, 8, 9, 10, 11, 12, 13, 14] rfl rfl (by decide) (by decide) (by decide) [0, 11, 12, 13, 14, 15, 1, 2, 3, 4, 5, 6, 7, 8, 9, 10] (by decide) (fun _ => rfl) (fun hg => va_runV (As := []) (rest := []) ⟨hx, hb, hml, hown, hts⟩ (c_X0_bestByTrying l D cI n1_0 g0 g1 g2 g3 g4 u1_0 u1_1 gn gu gb ga _ hq2) (cwV 0 hts gX4_causeByTrying_X0_bestByTrying rfl rfl rfl (by decide +kernel) ⟨Nat.le_of_ble_eq_true rfl, Nat.le_of_ble_eq_true rfl⟩) ⟨PW.blind, va_recv hK hP (ci := 0) (q0 := 15) rfl rfl, fun U hU hW => ⟨rfl, hg U hU hW⟩⟩ rfl rfl hl.1 rfl (lv_room (Nat.le_of_ble_eq_true rfl)) dX4_causeByTrying_4 ⟨Nat.le_of_ble_eq_true rfl, Nat.le_of_ble_eq_true rfl⟩) (fun r2 u H locs hw hP hD hS => ?_)
  subst hw
  refine lv_iload_n hx hb dX4_causeByTrying_7 rfl (lv_at hl 1 rfl) ?_
  have hq3 := hp.1
  replace hp := hp.2
  refine k_xcalli (S := Unit) (px := fun E => f_X4_nodeThere (f_X0_bestByTrying u1_0 u1_1 gb) a1 = .inl E ∧ (E = eIO)) (wc := ([] : va_W)) (wr := ((W_X4 cI x0 g0 g1 g2 g3 g4 l0 l1 l2 l3 l4 l5 t0 t1 t2 xr xt gn gu gb ga lc lk ln lt ll lr tw tn tt) ++ [(n1_0, .inr (0, [.ref g0, .int u1_0, .int u1_1]))])) (w1 := fun u => ([] : va_W)) (fun u => ((W_X4 cI x0 g0 g1 g2 g3 g4 l0 l1 l2 l3 l4 l5 t0 t1 t2 xr xt gn gu gb ga lc lk ln lt ll lr tw tn tt) ++ [(n1_0, .inr (0, [.ref g0, .int u1_0, .int u1_1]))])) hP hK hD hN hXB hS hA [] [0, 1, 2, 3, 4, 5, 6, 7, 8, 9, 10, 11, 12, 13, 14, 15] rfl rfl (by decide) (by decide) (by decide) [0, 1, 2, 3, 4, 5, 6, 7, 8, 9, 10, 11, 12, 13, 14, 15] (by decide) (fun _ => rfl) rfl (fun hg => vx_runS (As := [.int (f_X0_bestByTrying u1_0 u1_1 gb), .int a1]) (rest := []) ⟨hx, hb, hml, hown, hts⟩ (c_X4_nodeThere l D cI _ (f_X0_bestByTrying u1_0 u1_1 gb) a1 hq3 hst) (va_cwS 2 hts gX4_causeByTrying_X4_nodeThere rfl rfl rfl (by decide +kernel) ⟨Nat.le_of_ble_eq_true rfl, Nat.le_of_ble_eq_true rfl⟩) ⟨PX.blind, fun U hU hW => ⟨rfl, hg U hU hW⟩⟩ rfl rfl hl.1 rfl (lv_room (Nat.le_of_ble_eq_true rfl)) dX4_causeByTrying_8 ⟨Nat.le_of_ble_eq_true rfl, Nat.le_of_ble_eq_true rfl⟩) (fun E ce q9 H locs hw hP hD hS hc9 hv9 hcl9 => ?_) (fun r3 u H locs hw hP hD hS => ?_)
  · rw [hw.1] at he
    try dsimp only at he
    have hP : va_P D vwCl (W_X4 cI x0 g0 g1 g2 g3 g4 l0 l1 l2 l3 l4 l5 t0 t1 t2 xr xt gn gu gb ga lc lk ln lt ll lr tw tn tt) H := hP.sub [0, 1, 2, 3, 4, 5, 6, 7, 8, 9, 10, 11, 12, 13, 14] rfl
    have hD : va_D A (W_X4 cI x0 g0 g1 g2 g3 g4 l0 l1 l2 l3 l4 l5 t0 t1 t2 xr xt gn gu gb ga lc lk ln lt ll lr tw tn tt) := hD.sub [0, 1, 2, 3, 4, 5, 6, 7, 8, 9, 10, 11, 12, 13, 14] (by decide) rfl
    exact k_out (fun x hx => (ht x hx).elim) hlocks hP hK hD hS hc9 hv9 hcl9 (Nat.le_of_ble_eq_true rfl) (Nat.le_of_ble_eq_true rfl) ⟨he, hw.2⟩
  · rw [hw] at he
    try dsimp only at he
    replace hp := hp r3 hw
    have hP : va_P D vwCl (W_X4 cI x0 g0 g1 g2 g3 g4 l0 l1 l2 l3 l4 l5 t0 t1 t2 xr xt gn gu gb ga lc lk ln lt ll lr tw tn tt) H := hP.sub [0, 1, 2, 3, 4, 5, 6, 7, 8, 9, 10, 11, 12, 13, 14] rfl
    have hD : va_D A (W_X4 cI x0 g0 g1 g2 g3 g4 l0 l1 l2 l3 l4 l5 t0 t1 t2 xr xt gn gu gb ga lc lk ln lt ll lr tw tn tt) := hD.sub [0, 1, 2, 3, 4, 5, 6, 7, 8, 9, 10, 11, 12, 13, 14] (by decide) rfl
    refine vx_ret ?_
    exact W.iret (v := r3) hx hb hr (fun t ht hW => ⟨⟨r3, (), rfl, he, by rw [ht]; exact hP, va_K.moved hW.alike hK, hD⟩, hS.F ht⟩) hS.2.2 dX4_causeByTrying_11
abbrev rm_X4_greedyCauses : Room := { frames := 4, cells := 1, slots := 3, locals := 89 }
abbrev Q_X4_greedyCauses (D : va_G) (cI : ClassId) (x0 g0 g1 g2 g3 g4 l0 l1 l2 l3 l4 l5 t0 t1 t2 : Nat) (xr : Int32) (xt : Int32) (gn : AA) (gu : AA) (gb : AA) (ga : AA) (lc : Int32) (lk : AA) (ln : AA) (lt : AA) (ll : AA) (lr : AA) (tw : Int32) (tn : AA) (tt : AA) (A : Nat → Prop) : Array Value → State → Outcome → State → Prop := va_Qi (S := Unit) (fun r u => f_X4_greedyCauses xr gu ga = r) (fun u t => QW D [(cI, .int)] A (W_X4 cI x0 g0 g1 g2 g3 g4 l0 l1 l2 l3 l4 l5 t0 t1 t2 xr xt gn gu gb ga lc lk ln lt ll lr tw tn tt) t) A
set_option maxHeartbeats 4000000 in
set_option maxRecDepth 100000 in
theorem c_X4_greedyCauses (l : Launch)  (D : va_G) (cI : ClassId) (x0 g0 g1 g2 g3 g4 l0 l1 l2 l3 l4 l5 t0 t1 t2 : Nat) (xr : Int32) (xt : Int32) (gn : AA) (gu : AA) (gb : AA) (ga : AA) (lc : Int32) (lk : AA) (ln : AA) (lt : AA) (ll : AA) (lr : AA) (tw : Int32) (tn : AA) (tt : AA) (sz : Nat) (hp : p_X4_greedyCauses xr gu ga) : Met l yX4_greedyCauses wsX4_greedyCauses rm_X4_greedyCauses (va_Pc [.ref x0] (PW D [(cI, .int)] sz (W_X4 cI x0 g0 g1 g2 g3 g4 l0 l1 l2 l3 l4 l5 t0 t1 t2 xr xt gn gu gb ga lc lk ln lt ll lr tw tn tt))) (Q_X4_greedyCauses D cI x0 g0 g1 g2 g3 g4 l0 l1 l2 l3 l4 l5 t0 t1 t2 xr xt gn gu gb ga lc lk ln lt ll lr tw tn tt (va_A (W_X4 cI x0 g0 g1 g2 g3 g4 l0 l1 l2 l3 l4 l5 t0 t1 t2 xr xt gn gu gb ga lc lk ln lt ll lr tw tn tt) sz)) 1 3 (va_A (W_X4 cI x0 g0 g1 g2 g3 g4 l0 l1 l2 l3 l4 l5 t0 t1 t2 xr xt gn gu gb ga lc lk ln lt ll lr tw tn tt) sz) := by
  refine Met.ofW (cc := cX4_greedyCauses) (maxL := 1) (ret := (some .int)) (by decide) rfl ?_
  intro p e s m args below meth c s₁ B hml hv
  obtain ⟨rfl, hsz, hP, hK, hD0, hN⟩ := hv
  have hx := B.exec
  have hb := B.bytes
  have hr := B.returns
  have hts := atoms_spec (ws := wsX4_greedyCauses) B.pre
  have hown : s.vm.findClass RX4 = some m.cls := findClass_of_methodNamed B.named
  have hlocks := B.notSynchronized
  subst hsz
  have hD := hD0.self (sz := s.heap.size)
  generalize hAe : va_A (W_X4 cI x0 g0 g1 g2 g3 g4 l0 l1 l2 l3 l4 l5 t0 t1 t2 xr xt gn gu gb ga lc lk ln lt ll lr tw tn tt) s.heap.size = A at hD ⊢
  have hA : ∀ q : Nat, s.heap.size ≤ q → A q := fun q h => by rw [← hAe]; exact Or.inr h
  have hS : va_S A s.heap s.heap [] := va_S.rf
  have hl := lv_entry ([.ref x0]) (n := 1) (Nat.le_of_ble_eq_true rfl)
  rw [lg_entry_eq]
  generalize (lg_sl ([.ref x0]) ++ List.replicate (1 - (lg_sl ([.ref x0])).length) Slot.unset).toArray = ls at hl ⊢
  have hl : lv_has ls 1 [(0, .ref x0)] := hl
  have he := f_X4_greedyCauses.eq_1 xr gu ga
  replace hp := Eq.mp (p_X4_greedyCauses.eq_1 ..) hp
  refine lv_aload_n hx hb dX4_greedyCauses_0 rfl (lv_at hl 0 rfl) ?_
  have hq1 := hp.1
  replace hp := hp.2
  refine k_callr (S := (Int32 × Int32) × (Nat)) (wc := (W_X4 cI x0 g0 g1 g2 g3 g4 l0 l1 l2 l3 l4 l5 t0 t1 t2 xr xt gn gu gb ga lc lk ln lt ll lr tw tn tt)) (wr := ([] : va_W)) (w1 := fun u => ((W_X4 cI x0 g0 g1 g2 g3 g4 l0 l1 l2 l3 l4 l5 t0 t1 t2 xr xt gn gu gb ga lc lk ln lt ll lr tw tn tt) ++ [(u.2, .inr (0, [.ref g0, .int u.1.1, .int u.1.2]))])) (ra := fun u => u.2) (fun u => ((W_X4 cI x0 g0 g1 g2 g3 g4 l0 l1 l2 l3 l4 l5 t0 t1 t2 xr xt gn gu gb ga lc lk ln lt ll lr tw tn tt) ++ [(u.2, .inr (0, [.ref g0, .int u.1.1, .int u.1.2]))])) hP hK hD hN hS hA [0, 1, 2, 3, 4, 5, 6, 7, 8, 9, 10, 11, 12, 13, 14] [] rfl rfl (by decide) (by decide) (by decide) [0, 1, 2, 3, 4, 5, 6, 7, 8, 9, 10, 11, 12, 13, 14, 15] (by decide) (fun _ => rfl) (fun hg => va_runV (As := []) (rest := []) ⟨hx, hb, hml, hown, hts⟩ (c_X4_diagnoser l D cI x0 g0 g1 g2 g3 g4 l0 l1 l2 l3 l4 l5 t0 t1 t2 xr xt gn gu gb ga lc lk ln lt ll lr tw tn tt _ hq1) (cwV 0 hts gX4_greedyCauses_X4_diagnoser rfl rfl rfl (by decide +kernel) ⟨Nat.le_of_ble_eq_true rfl, Nat.le_of_ble_eq_true rfl⟩) ⟨PW.blind, va_recv hK hP (ci := 4) (q0 := 0) rfl rfl, fun U hU hW => ⟨rfl, hg U hU hW⟩⟩ rfl rfl hl.1 rfl (lv_room (Nat.le_of_ble_eq_true rfl)) dX4_greedyCauses_1 ⟨Nat.le_of_ble_eq_true rfl, Nat.le_of_ble_eq_true rfl⟩) (fun u H locs hw hP hD hS => ?_)
  obtain ⟨⟨u1_0, u1_1⟩, n1_0⟩ := u
  try dsimp only at hw
  rw [hw] at he
  try dsimp only at he
  replace hp := hp u1_0 u1_1 hw
  have hP : va_P D vwCl ((W_X4 cI x0 g0 g1 g2 g3 g4 l0 l1 l2 l3 l4 l5 t0 t1 t2 xr xt gn gu gb ga lc lk ln lt ll lr tw tn tt) ++ [(n1_0, .inr (0, [.ref g0, .int u1_0, .int u1_1]))]) H := hP
  have hD : va_D A ((W_X4 cI x0 g0 g1 g2 g3 g4 l0 l1 l2 l3 l4 l5 t0 t1 t2 xr xt gn gu gb ga lc lk ln lt ll lr tw tn tt) ++ [(n1_0, .inr (0, [.ref g0, .int u1_0, .int u1_1]))]) := hD
  have hq2 := hp.1
  replace hp := hp.2
  refine k_calli (S := Unit) (wc := (W_X0 cI n1_0 g0 g1 g2 g3 g4 u1_0 u1_1 gn gu gb ga)) (wr := ([(x0, .inr (4, [.ref g0, .ref l0, .ref t0, .int xr, .int xt]))] ++ (W_X2 cI l0 l1 l2 l3 l4 l5 lc lk ln lt ll lr) ++ (W_X3 cI t0 t1 t2 tw tn tt))) (w1 := fun u => (W_X0 cI n1_0 g0 g1 g2 g3 g4 u1_0 u1_1 gn gu gb ga)) (fun u => ((W_X4 cI x0 g0 g1 g2 g3 g4 l0 l1 l2 l3 l4 l5 t0 t1 t2 xr xt gn gu gb ga lc lk ln lt ll lr tw tn tt) ++ [(n1_0, .inr (0, [.ref g0, .int u1_0, .int u1_1]))])) hP hK hD hN hS hA [15, 1, 2, 3, 4, 5] [0, 6, 7, 8, 9, 10, 11, 12, 13, 14] rfl rfl (by decide) (by decide) (by decide) [0, 11, 12, 13, 14, 15, 1, 2, 3, 4, 5, 6, 7, 8, 9, 10] (by decide) (fun _ => rfl) (fun hg => va_runV (As := []) (rest := []) ⟨hx, hb, hml, hown, hts⟩ (c_X0_greedyCount l D cI n1_0 g0 g1 g2 g3 g4 u1_0 u1_1 gn gu gb ga _ hq2) (cwV 0 hts gX4_greedyCauses_X0_greedyCount rfl rfl rfl (by decide +kernel) ⟨Nat.le_of_ble_eq_true rfl, Nat.le_of_ble_eq_true rfl⟩) ⟨PW.blind, va_recv hK hP (ci := 0) (q0 := 15) rfl rfl, fun U hU hW => ⟨rfl, hg U hU hW⟩⟩ rfl rfl hl.1 rfl (lv_room (Nat.le_of_ble_eq_true rfl)) dX4_greedyCauses_4 ⟨Nat.le_of_ble_eq_true rfl, Nat.le_of_ble_eq_true rfl⟩) (fun r2 u H locs hw hP hD hS => ?_)
  subst hw
  have hP : va_P D vwCl (W_X4 cI x0 g0 g1 g2 g3 g4 l0 l1 l2 l3 l4 l5 t0 t1 t2 xr xt gn gu gb ga lc lk ln lt ll lr tw tn tt) H := hP.sub [0, 1, 2, 3, 4, 5, 6, 7, 8, 9, 10, 11, 12, 13, 14] rfl
  have hD : va_D A (W_X4 cI x0 g0 g1 g2 g3 g4 l0 l1 l2 l3 l4 l5 t0 t1 t2 xr xt gn gu gb ga lc lk ln lt ll lr tw tn tt) := hD.sub [0, 1, 2, 3, 4, 5, 6, 7, 8, 9, 10, 11, 12, 13, 14] (by decide) rfl
  exact W.iret (v := (f_X0_greedyCount u1_0 u1_1 ga)) hx hb hr (fun t ht hW => ⟨⟨(f_X0_greedyCount u1_0 u1_1 ga), (), rfl, he, by rw [ht]; exact hP, va_K.moved hW.alike hK, hD⟩, hS.F ht⟩) hS.2.2 dX4_greedyCauses_7
abbrev rm_X4_greedyCause : Room := { frames := 6, cells := 2, slots := 9, locals := 91 }
abbrev Q_X4_greedyCause (D : va_G) (cI : ClassId) (x0 g0 g1 g2 g3 g4 l0 l1 l2 l3 l4 l5 t0 t1 t2 : Nat) (xr : Int32) (xt : Int32) (gn : AA) (gu : AA) (gb : AA) (ga : AA) (lc : Int32) (lk : AA) (ln : AA) (lt : AA) (ll : AA) (lr : AA) (tw : Int32) (tn : AA) (tt : AA) (a1 : Int32) (A : Nat → Prop) : Array Value → State → Outcome → State → Prop := va_Qi (S := Unit) (fun r u => f_X4_greedyCause xr gu ga a1 = .inr r) (fun u t => QW D [(cI, .int)] A (W_X4 cI x0 g0 g1 g2 g3 g4 l0 l1 l2 l3 l4 l5 t0 t1 t2 xr xt gn gu gb ga lc lk ln lt ll lr tw tn tt) t) A
abbrev X_X4_greedyCause (D : va_G) (cI : ClassId) (x0 g0 g1 g2 g3 g4 l0 l1 l2 l3 l4 l5 t0 t1 t2 : Nat) (xr : Int32) (xt : Int32) (gn : AA) (gu : AA) (gb : AA) (ga : AA) (lc : Int32) (lk : AA) (ln : AA) (lt : AA) (ll : AA) (lr : AA) (tw : Int32) (tn : AA) (tt : AA) (a1 : Int32) (A : Nat → Prop) : String → State → State → Prop := vx_X (fun _ : Unit => True) (fun E _ t => (f_X4_greedyCause xr gu ga a1 = .inl E ∧ (E = eIO)) ∧ QW D [(cI, .int)] A (W_X4 cI x0 g0 g1 g2 g3 g4 l0 l1 l2 l3 l4 l5 t0 t1 t2 xr xt gn gu gb ga lc lk ln lt ll lr tw tn tt) t) A
set_option maxHeartbeats 4000000 in
set_option maxRecDepth 100000 in
theorem c_X4_greedyCause (l : Launch)  (D : va_G) (cI : ClassId) (x0 g0 g1 g2 g3 g4 l0 l1 l2 l3 l4 l5 t0 t1 t2 : Nat) (xr : Int32) (xt : Int32) (gn : AA) (gu : AA) (gb : AA) (ga : AA) (lc : Int32) (lk : AA) (ln : AA) (lt : AA) (ll : AA) (lr : AA) (tw : Int32) (tn : AA) (tt : AA) (sz : Nat) (a1 : Int32) (hp : p_X4_greedyCause xr gu ga a1) (hst : l.stackTraces = false) : vx_Met l yX4_greedyCause wsX4_greedyCause rm_X4_greedyCause (va_Pc [.ref x0, .int a1] (PX D [(cI, .int)] sz (W_X4 cI x0 g0 g1 g2 g3 g4 l0 l1 l2 l3 l4 l5 t0 t1 t2 xr xt gn gu gb ga lc lk ln lt ll lr tw tn tt))) (Q_X4_greedyCause D cI x0 g0 g1 g2 g3 g4 l0 l1 l2 l3 l4 l5 t0 t1 t2 xr xt gn gu gb ga lc lk ln lt ll lr tw tn tt a1 (va_A (W_X4 cI x0 g0 g1 g2 g3 g4 l0 l1 l2 l3 l4 l5 t0 t1 t2 xr xt gn gu gb ga lc lk ln lt ll lr tw tn tt) sz)) (X_X4_greedyCause D cI x0 g0 g1 g2 g3 g4 l0 l1 l2 l3 l4 l5 t0 t1 t2 xr xt gn gu gb ga lc lk ln lt ll lr tw tn tt a1 (va_A (W_X4 cI x0 g0 g1 g2 g3 g4 l0 l1 l2 l3 l4 l5 t0 t1 t2 xr xt gn gu gb ga lc lk ln lt ll lr tw tn tt) sz)) 2 9 (va_A (W_X4 cI x0 g0 g1 g2 g3 g4 l0 l1 l2 l3 l4 l5 t0 t1 t2 xr xt gn gu gb ga lc lk ln lt ll lr tw tn tt) sz) := by
  refine vx_ofW (cc := cX4_greedyCause) (maxL := 3) (ret := (some .int)) (by decide) rfl ?_
  intro p e s m args below meth c s₁ B hml ht hv
  obtain ⟨rfl, ⟨hsz, hP, hK, hD0, hN⟩, hXB⟩ := hv
  have hx := B.exec
  have hb := B.bytes
  have hr := B.returns
  have hts := atoms_spec (ws := wsX4_greedyCause) B.pre
  have hown : s.vm.findClass RX4 = some m.cls := findClass_of_methodNamed B.named
  have hlocks := B.notSynchronized
  subst hsz
  have hD := hD0.self (sz := s.heap.size)
  generalize hAe : va_A (W_X4 cI x0 g0 g1 g2 g3 g4 l0 l1 l2 l3 l4 l5 t0 t1 t2 xr xt gn gu gb ga lc lk ln lt ll lr tw tn tt) s.heap.size = A at hD hXB ⊢
  have hA : ∀ q : Nat, s.heap.size ≤ q → A q := fun q h => by rw [← hAe]; exact Or.inr h
  have hS : va_S A s.heap s.heap [] := va_S.rf
  have hl := lv_entry ([.ref x0, .int a1]) (n := 3) (Nat.le_of_ble_eq_true rfl)
  rw [lg_entry_eq]
  generalize (lg_sl ([.ref x0, .int a1]) ++ List.replicate (3 - (lg_sl ([.ref x0, .int a1])).length) Slot.unset).toArray = ls at hl ⊢
  have hl : lv_has ls 3 [(0, .ref x0), (1, .int a1)] := hl
  have he := f_X4_greedyCause.eq_1 xr gu ga a1
  replace hp := Eq.mp (p_X4_greedyCause.eq_1 ..) hp
  refine lv_aload_n hx hb dX4_greedyCause_0 rfl (lv_at hl 0 rfl) ?_
  have hq1 := hp.1
  replace hp := hp.2
  refine k_callr (S := (Int32 × Int32) × (Nat)) (wc := (W_X4 cI x0 g0 g1 g2 g3 g4 l0 l1 l2 l3 l4 l5 t0 t1 t2 xr xt gn gu gb ga lc lk ln lt ll lr tw tn tt)) (wr := ([] : va_W)) (w1 := fun u => ((W_X4 cI x0 g0 g1 g2 g3 g4 l0 l1 l2 l3 l4 l5 t0 t1 t2 xr xt gn gu gb ga lc lk ln lt ll lr tw tn tt) ++ [(u.2, .inr (0, [.ref g0, .int u.1.1, .int u.1.2]))])) (ra := fun u => u.2) (fun u => ((W_X4 cI x0 g0 g1 g2 g3 g4 l0 l1 l2 l3 l4 l5 t0 t1 t2 xr xt gn gu gb ga lc lk ln lt ll lr tw tn tt) ++ [(u.2, .inr (0, [.ref g0, .int u.1.1, .int u.1.2]))])) hP hK hD hN hS hA [0, 1, 2, 3, 4, 5, 6, 7, 8, 9, 10, 11, 12, 13, 14] [] rfl rfl (by decide) (by decide) (by decide) [0, 1, 2, 3, 4, 5, 6, 7, 8, 9, 10, 11, 12, 13, 14, 15] (by decide) (fun _ => rfl) (fun hg => va_runV (As := []) (rest := []) ⟨hx, hb, hml, hown, hts⟩ (c_X4_diagnoser l D cI x0 g0 g1 g2 g3 g4 l0 l1 l2 l3 l4 l5 t0 t1 t2 xr xt gn gu gb ga lc lk ln lt ll lr tw tn tt _ hq1) (cwV 0 hts gX4_greedyCause_X4_diagnoser rfl rfl rfl (by decide +kernel) ⟨Nat.le_of_ble_eq_true rfl, Nat.le_of_ble_eq_true rfl⟩) ⟨PW.blind, va_recv hK hP (ci := 4) (q0 := 0) rfl rfl, fun U hU hW => ⟨rfl, hg U hU hW⟩⟩ rfl rfl hl.1 rfl (lv_room (Nat.le_of_ble_eq_true rfl)) dX4_greedyCause_1 ⟨Nat.le_of_ble_eq_true rfl, Nat.le_of_ble_eq_true rfl⟩) (fun u H locs hw hP hD hS => ?_)
  obtain ⟨⟨u1_0, u1_1⟩, n1_0⟩ := u
  try dsimp only at hw
  rw [hw] at he
  try dsimp only at he
  replace hp := hp u1_0 u1_1 hw
  have hP : va_P D vwCl ((W_X4 cI x0 g0 g1 g2 g3 g4 l0 l1 l2 l3 l4 l5 t0 t1 t2 xr xt gn gu gb ga lc lk ln lt ll lr tw tn tt) ++ [(n1_0, .inr (0, [.ref g0, .int u1_0, .int u1_1]))]) H := hP
  have hD : va_D A ((W_X4 cI x0 g0 g1 g2 g3 g4 l0 l1 l2 l3 l4 l5 t0 t1 t2 xr xt gn gu gb ga lc lk ln lt ll lr tw tn tt) ++ [(n1_0, .inr (0, [.ref g0, .int u1_0, .int u1_1]))]) := hD
  refine lv_iload_n hx hb dX4_greedyCause_4 rfl (lv_at hl 1 rfl) ?_
  have hq2 := hp.1
  replace hp := hp.2
  refine k_calli (S := Unit) (wc := (W_X0 cI n1_0 g0 g1 g2 g3 g4 u1_0 u1_1 gn gu gb ga)) (wr := ([(x0, .inr (4, [.ref g0, .ref l0, .ref t0, .int xr, .int xt]))] ++ (W_X2 cI l0 l1 l2 l3 l4 l5 lc lk ln lt ll lr) ++ (W_X3 cI t0 t1 t2 tw tn tt))) (w1 := fun u => (W_X0 cI n1_0 g0 g1 g2 g3 g4 u1_0 u1_1 gn gu gb ga)) (fun u => ((W_X4 cI x0 g0 g1 g2 g3 g4 l0 l1 l2 l3 l4 l5 t0 t1 t2 xr xt gn gu gb ga lc lk ln lt ll lr tw tn tt) ++ [(n1_0, .inr (0, [.ref g0, .int u1_0, .int u1_1]))])) hP hK hD hN hS hA [15, 1, 2, 3, 4, 5] [0, 6, 7, 8, 9, 10, 11, 12, 13, 14] rfl rfl (by decide) (by decide) (by decide) [0, 11, 12, 13, 14, 15, 1, 2, 3, 4, 5, 6, 7, 8, 9, 10] (by decide) (fun _ => rfl) (fun hg => va_runV (As := [.int a1]) (rest := []) ⟨hx, hb, hml, hown, hts⟩ (c_X0_greedyAt l D cI n1_0 g0 g1 g2 g3 g4 u1_0 u1_1 gn gu gb ga _ a1 hq2) (cwV 1 hts gX4_greedyCause_X0_greedyAt rfl rfl rfl (by decide +kernel) ⟨Nat.le_of_ble_eq_true rfl, Nat.le_of_ble_eq_true rfl⟩) ⟨PW.blind, va_recv hK hP (ci := 0) (q0 := 15) rfl rfl, fun U hU hW => ⟨rfl, hg U hU hW⟩⟩ rfl rfl hl.1 rfl (lv_room (Nat.le_of_ble_eq_true rfl)) dX4_greedyCause_5 ⟨Nat.le_of_ble_eq_true rfl, Nat.le_of_ble_eq_true rfl⟩) (fun r2 u H locs hw hP hD hS => ?_)
  subst hw
  refine lv_istore_n (lv' := [(2, .int (f_X0_greedyAt u1_0 u1_1 ga a1)), (0, .ref x0), (1, .int a1)]) hx hb dX4_greedyCause_8 rfl hl (by decide) rfl (fun ls hl => ?_)
  refine lv_iload_n hx hb dX4_greedyCause_9 rfl (lv_at hl 0 rfl) ?_
  refine lv_iconst (v := (-1)) hx hb dX4_greedyCause_10 (by decide) ?_
  refine lv_icmp_ne (tgt := 24) hx hb dX4_greedyCause_11 (by decide) (fun c3 => ?_) (fun c3 => ?_)
  · replace hp := hp.2 c3
    replace he := he.trans (if_neg c3)
    refine lv_iload_n hx hb dX4_greedyCause_24 rfl (lv_at hl 0 rfl) ?_
    have hP : va_P D vwCl (W_X4 cI x0 g0 g1 g2 g3 g4 l0 l1 l2 l3 l4 l5 t0 t1 t2 xr xt gn gu gb ga lc lk ln lt ll lr tw tn tt) H := hP.sub [0, 1, 2, 3, 4, 5, 6, 7, 8, 9, 10, 11, 12, 13, 14] rfl
    have hD : va_D A (W_X4 cI x0 g0 g1 g2 g3 g4 l0 l1 l2 l3 l4 l5 t0 t1 t2 xr xt gn gu gb ga lc lk ln lt ll lr tw tn tt) := hD.sub [0, 1, 2, 3, 4, 5, 6, 7, 8, 9, 10, 11, 12, 13, 14] (by decide) rfl
    refine W.widen (k := 2) (n := 9) (Nat.le_of_ble_eq_true rfl) (Nat.le_of_ble_eq_true rfl) ?_
    refine vx_ret ?_
    exact W.iret (v := (f_X0_greedyAt u1_0 u1_1 ga a1)) hx hb hr (fun t ht hW => ⟨⟨(f_X0_greedyAt u1_0 u1_1 ga a1), (), rfl, he, by rw [ht]; exact hP, va_K.moved hW.alike hK, hD⟩, hS.F ht⟩) hS.2.2 dX4_greedyCause_25
  · replace hp := hp.1 c3
    replace he := he.trans (if_pos c3)
    have hP : va_P D vwCl (W_X4 cI x0 g0 g1 g2 g3 g4 l0 l1 l2 l3 l4 l5 t0 t1 t2 xr xt gn gu gb ga lc lk ln lt ll lr tw tn tt) H := hP.sub [0, 1, 2, 3, 4, 5, 6, 7, 8, 9, 10, 11, 12, 13, 14] rfl
    have hD : va_D A (W_X4 cI x0 g0 g1 g2 g3 g4 l0 l1 l2 l3 l4 l5 t0 t1 t2 xr xt gn gu gb ga lc lk ln lt ll lr tw tn tt) := hD.sub [0, 1, 2, 3, 4, 5, 6, 7, 8, 9, 10, 11, 12, 13, 14] (by decide) rfl
    exact k_throw (cls := eIO) (text := "no such place") hx hb hst hts hown (by decide +kernel) (by decide +kernel) (by decide +kernel) (by decide +kernel) (by decide +kernel) (by decide +kernel) (by decide +kernel) hXB hP hK hD hS (by rw [hml]; exact hl.1) dX4_greedyCause_14 dX4_greedyCause_17 dX4_greedyCause_18 dX4_greedyCause_20 dX4_greedyCause_23 (fun x hx => (ht x hx).elim) (Nat.le_of_ble_eq_true rfl) (Nat.le_of_ble_eq_true rfl) (Nat.le_of_ble_eq_true rfl) (Nat.le_of_ble_eq_true rfl) hlocks (Nat.le_of_ble_eq_true rfl) (Nat.le_of_ble_eq_true rfl) ⟨he, rfl⟩
abbrev rm_X4_causeOf : Room := { frames := 22, cells := 2, slots := 9, locals := 655 }
abbrev Q_X4_causeOf (D : va_G) (cI : ClassId) (x0 g0 g1 g2 g3 g4 l0 l1 l2 l3 l4 l5 t0 t1 t2 : Nat) (xr : Int32) (xt : Int32) (gn : AA) (gu : AA) (gb : AA) (ga : AA) (lc : Int32) (lk : AA) (ln : AA) (lt : AA) (ll : AA) (lr : AA) (tw : Int32) (tn : AA) (tt : AA) (a1 : Int32) (A : Nat → Prop) : Array Value → State → Outcome → State → Prop := va_Qi (S := Unit) (fun r u => f_X4_causeOf xr gu gb ga a1 = .inr r) (fun u t => QW D [(cI, .int)] A (W_X4 cI x0 g0 g1 g2 g3 g4 l0 l1 l2 l3 l4 l5 t0 t1 t2 xr xt gn gu gb ga lc lk ln lt ll lr tw tn tt) t) A
abbrev X_X4_causeOf (D : va_G) (cI : ClassId) (x0 g0 g1 g2 g3 g4 l0 l1 l2 l3 l4 l5 t0 t1 t2 : Nat) (xr : Int32) (xt : Int32) (gn : AA) (gu : AA) (gb : AA) (ga : AA) (lc : Int32) (lk : AA) (ln : AA) (lt : AA) (ll : AA) (lr : AA) (tw : Int32) (tn : AA) (tt : AA) (a1 : Int32) (A : Nat → Prop) : String → State → State → Prop := vx_X (fun _ : Unit => True) (fun E _ t => (f_X4_causeOf xr gu gb ga a1 = .inl E ∧ (E = eIO)) ∧ QW D [(cI, .int)] A (W_X4 cI x0 g0 g1 g2 g3 g4 l0 l1 l2 l3 l4 l5 t0 t1 t2 xr xt gn gu gb ga lc lk ln lt ll lr tw tn tt) t) A
set_option maxHeartbeats 4000000 in
set_option maxRecDepth 100000 in
theorem c_X4_causeOf (l : Launch)  (D : va_G) (cI : ClassId) (x0 g0 g1 g2 g3 g4 l0 l1 l2 l3 l4 l5 t0 t1 t2 : Nat) (xr : Int32) (xt : Int32) (gn : AA) (gu : AA) (gb : AA) (ga : AA) (lc : Int32) (lk : AA) (ln : AA) (lt : AA) (ll : AA) (lr : AA) (tw : Int32) (tn : AA) (tt : AA) (sz : Nat) (a1 : Int32) (hp : p_X4_causeOf xr gu gb ga a1) (hst : l.stackTraces = false) : vx_Met l yX4_causeOf wsX4_causeOf rm_X4_causeOf (va_Pc [.ref x0, .int a1] (PX D [(cI, .int)] sz (W_X4 cI x0 g0 g1 g2 g3 g4 l0 l1 l2 l3 l4 l5 t0 t1 t2 xr xt gn gu gb ga lc lk ln lt ll lr tw tn tt))) (Q_X4_causeOf D cI x0 g0 g1 g2 g3 g4 l0 l1 l2 l3 l4 l5 t0 t1 t2 xr xt gn gu gb ga lc lk ln lt ll lr tw tn tt a1 (va_A (W_X4 cI x0 g0 g1 g2 g3 g4 l0 l1 l2 l3 l4 l5 t0 t1 t2 xr xt gn gu gb ga lc lk ln lt ll lr tw tn tt) sz)) (X_X4_causeOf D cI x0 g0 g1 g2 g3 g4 l0 l1 l2 l3 l4 l5 t0 t1 t2 xr xt gn gu gb ga lc lk ln lt ll lr tw tn tt a1 (va_A (W_X4 cI x0 g0 g1 g2 g3 g4 l0 l1 l2 l3 l4 l5 t0 t1 t2 xr xt gn gu gb ga lc lk ln lt ll lr tw tn tt) sz)) 2 9 (va_A (W_X4 cI x0 g0 g1 g2 g3 g4 l0 l1 l2 l3 l4 l5 t0 t1 t2 xr xt gn gu gb ga lc lk ln lt ll lr tw tn tt) sz) := by
  refine vx_ofW (cc := cX4_causeOf) (maxL := 2) (ret := (some .int)) (by decide) rfl ?_
  intro p e s m args below meth c s₁ B hml ht hv
  obtain ⟨rfl, ⟨hsz, hP, hK, hD0, hN⟩, hXB⟩ := hv
  have hx := B.exec
  have hb := B.bytes
  have hr := B.returns
  have hts := atoms_spec (ws := wsX4_causeOf) B.pre
  have hown : s.vm.findClass RX4 = some m.cls := findClass_of_methodNamed B.named
  have hlocks := B.notSynchronized
  subst hsz
  have hD := hD0.self (sz := s.heap.size)
  generalize hAe : va_A (W_X4 cI x0 g0 g1 g2 g3 g4 l0 l1 l2 l3 l4 l5 t0 t1 t2 xr xt gn gu gb ga lc lk ln lt ll lr tw tn tt) s.heap.size = A at hD hXB ⊢
  have hA : ∀ q : Nat, s.heap.size ≤ q → A q := fun q h => by rw [← hAe]; exact Or.inr h
  have hS : va_S A s.heap s.heap [] := va_S.rf
  have hl := lv_entry ([.ref x0, .int a1]) (n := 2) (Nat.le_of_ble_eq_true rfl)
  rw [lg_entry_eq]
  generalize (lg_sl ([.ref x0, .int a1]) ++ List.replicate (2 - (lg_sl ([.ref x0, .int a1])).length) Slot.unset).toArray = ls at hl ⊢
  have hl : lv_has ls 2 [(0, .ref x0), (1, .int a1)] := hl
  have he := f_X4_causeOf.eq_1 xr gu gb ga a1
  replace hp := Eq.mp (p_X4_causeOf.eq_1 ..) hp
  refine lv_iload_n hx hb dX4_causeOf_0 rfl (lv_at hl 1 rfl) ?_
  refine k_xcallv (S := Unit) (px := fun E => f_X4_checkNode a1 = .inl E ∧ (E = eIO)) (wc := ([] : va_W)) (wr := (W_X4 cI x0 g0 g1 g2 g3 g4 l0 l1 l2 l3 l4 l5 t0 t1 t2 xr xt gn gu gb ga lc lk ln lt ll lr tw tn tt)) (w1 := fun u => ([] : va_W)) (fun u => (W_X4 cI x0 g0 g1 g2 g3 g4 l0 l1 l2 l3 l4 l5 t0 t1 t2 xr xt gn gu gb ga lc lk ln lt ll lr tw tn tt)) hP hK hD hN hXB hS hA [] [0, 1, 2, 3, 4, 5, 6, 7, 8, 9, 10, 11, 12, 13, 14] rfl rfl (by decide) (by decide) (by decide) [0, 1, 2, 3, 4, 5, 6, 7, 8, 9, 10, 11, 12, 13, 14] (by decide) (fun _ => rfl) rfl (fun hg => vx_runS (As := [.int a1]) (rest := []) ⟨hx, hb, hml, hown, hts⟩ (c_X4_checkNode l D cI _ a1 hst) (va_cwS 1 hts gX4_causeOf_X4_checkNode rfl rfl rfl (by decide +kernel) ⟨Nat.le_of_ble_eq_true rfl, Nat.le_of_ble_eq_true rfl⟩) ⟨PX.blind, fun U hU hW => ⟨rfl, hg U hU hW⟩⟩ rfl rfl hl.1 rfl (lv_room (Nat.le_of_ble_eq_true rfl)) dX4_causeOf_1 ⟨Nat.le_of_ble_eq_true rfl, Nat.le_of_ble_eq_true rfl⟩) (fun E ce q9 H locs hw hP hD hS hc9 hv9 hcl9 => ?_) (fun u H locs hw hP hD hS => ?_)
  · rw [hw.1] at he
    try dsimp only at he
    exact k_out (fun x hx => (ht x hx).elim) hlocks hP hK hD hS hc9 hv9 hcl9 (Nat.le_of_ble_eq_true rfl) (Nat.le_of_ble_eq_true rfl) ⟨he, hw.2⟩
  · rw [hw] at he
    try dsimp only at he
    replace hp := hp  hw
    refine lv_aload_n hx hb dX4_causeOf_4 rfl (lv_at hl 0 rfl) ?_
    refine va_get (D := D) (ci := 4) (v := .int xr) (C := RX4) (T := TX4) (N := 5) hx hb hts (by decide +kernel) hown hK hP 0 rfl rfl 3 (by decide) (hts (.fieldLink RX4 30 "Alarmgrove" "raised" "I") (by decide +kernel)) (fun _ h9 => h9) rfl dX4_causeOf_5 ?_
    refine lv_iload_n hx hb dX4_causeOf_8 rfl (lv_at hl 1 rfl) ?_
    refine k_calli (S := Unit) (wc := ([] : va_W)) (wr := (W_X4 cI x0 g0 g1 g2 g3 g4 l0 l1 l2 l3 l4 l5 t0 t1 t2 xr xt gn gu gb ga lc lk ln lt ll lr tw tn tt)) (w1 := fun u => ([] : va_W)) (fun u => (W_X4 cI x0 g0 g1 g2 g3 g4 l0 l1 l2 l3 l4 l5 t0 t1 t2 xr xt gn gu gb ga lc lk ln lt ll lr tw tn tt)) hP hK hD hN hS hA [] [0, 1, 2, 3, 4, 5, 6, 7, 8, 9, 10, 11, 12, 13, 14] rfl rfl (by decide) (by decide) (by decide) [0, 1, 2, 3, 4, 5, 6, 7, 8, 9, 10, 11, 12, 13, 14] (by decide) (fun _ => rfl) (fun hg => va_runS (As := [.int xr, .int a1]) (rest := []) ⟨hx, hb, hml, hown, hts⟩ (c_X4_has l D cI _ xr a1) (va_cwS 2 hts gX4_causeOf_X4_has rfl rfl rfl (by decide +kernel) ⟨Nat.le_of_ble_eq_true rfl, Nat.le_of_ble_eq_true rfl⟩) ⟨PW.blind, fun U hU hW => ⟨rfl, hg U hU hW⟩⟩ rfl rfl hl.1 rfl (lv_room (Nat.le_of_ble_eq_true rfl)) dX4_causeOf_9 ⟨Nat.le_of_ble_eq_true rfl, Nat.le_of_ble_eq_true rfl⟩) (fun r2 u H locs hw hP hD hS => ?_)
    obtain ⟨hw, hb2⟩ := hw
    subst hw
    refine lv_if_ne (tgt := 17) hx hb dX4_causeOf_12 (by decide) (fun c3 => ?_) (fun c3 => ?_)
    · replace hp := hp.2 c3
      replace he := he.trans (if_neg c3)
      refine lv_aload_n hx hb dX4_causeOf_17 rfl (lv_at hl 0 rfl) ?_
      have hq4 := hp.1
      replace hp := hp.2
      refine k_callr (S := (Int32 × Int32) × (Nat)) (wc := (W_X4 cI x0 g0 g1 g2 g3 g4 l0 l1 l2 l3 l4 l5 t0 t1 t2 xr xt gn gu gb ga lc lk ln lt ll lr tw tn tt)) (wr := ([] : va_W)) (w1 := fun u => ((W_X4 cI x0 g0 g1 g2 g3 g4 l0 l1 l2 l3 l4 l5 t0 t1 t2 xr xt gn gu gb ga lc lk ln lt ll lr tw tn tt) ++ [(u.2, .inr (0, [.ref g0, .int u.1.1, .int u.1.2]))])) (ra := fun u => u.2) (fun u => ((W_X4 cI x0 g0 g1 g2 g3 g4 l0 l1 l2 l3 l4 l5 t0 t1 t2 xr xt gn gu gb ga lc lk ln lt ll lr tw tn tt) ++ [(u.2, .inr (0, [.ref g0, .int u.1.1, .int u.1.2]))])) hP hK hD hN hS hA [0, 1, 2, 3, 4, 5, 6, 7, 8, 9, 10, 11, 12, 13, 14] [] rfl rfl (by decide) (by decide) (by decide) [0, 1, 2, 3, 4, 5, 6, 7, 8, 9, 10, 11, 12, 13, 14, 15] (by decide) (fun _ => rfl) (fun hg => va_runV (As := []) (rest := []) ⟨hx, hb, hml, hown, hts⟩ (c_X4_diagnoser l D cI x0 g0 g1 g2 g3 g4 l0 l1 l2 l3 l4 l5 t0 t1 t2 xr xt gn gu gb ga lc lk ln lt ll lr tw tn tt _ hq4) (cwV 0 hts gX4_causeOf_X4_diagnoser rfl rfl rfl (by decide +kernel) ⟨Nat.le_of_ble_eq_true rfl, Nat.le_of_ble_eq_true rfl⟩) ⟨PW.blind, va_recv hK hP (ci := 4) (q0 := 0) rfl rfl, fun U hU hW => ⟨rfl, hg U hU hW⟩⟩ rfl rfl hl.1 rfl (lv_room (Nat.le_of_ble_eq_true rfl)) dX4_causeOf_18 ⟨Nat.le_of_ble_eq_true rfl, Nat.le_of_ble_eq_true rfl⟩) (fun u H locs hw hP hD hS => ?_)
      obtain ⟨⟨u4_0, u4_1⟩, n4_0⟩ := u
      try dsimp only at hw
      rw [hw] at he
      try dsimp only at he
      replace hp := hp u4_0 u4_1 hw
      have hP : va_P D vwCl ((W_X4 cI x0 g0 g1 g2 g3 g4 l0 l1 l2 l3 l4 l5 t0 t1 t2 xr xt gn gu gb ga lc lk ln lt ll lr tw tn tt) ++ [(n4_0, .inr (0, [.ref g0, .int u4_0, .int u4_1]))]) H := hP
      have hD : va_D A ((W_X4 cI x0 g0 g1 g2 g3 g4 l0 l1 l2 l3 l4 l5 t0 t1 t2 xr xt gn gu gb ga lc lk ln lt ll lr tw tn tt) ++ [(n4_0, .inr (0, [.ref g0, .int u4_0, .int u4_1]))]) := hD
      have hq5 := hp.1
      replace hp := hp.2
      refine k_calli (S := Unit) (wc := (W_X0 cI n4_0 g0 g1 g2 g3 g4 u4_0 u4_1 gn gu gb ga)) (wr := ([(x0, .inr (4, [.ref g0, .ref l0, .ref t0, .int xr, .int xt]))] ++ (W_X2 cI l0 l1 l2 l3 l4 l5 lc lk ln lt ll lr) ++ (W_X3 cI t0 t1 t2 tw tn tt))) (w1 := fun u => (W_X0 cI n4_0 g0 g1 g2 g3 g4 u4_0 u4_1 gn gu gb ga)) (fun u => ((W_X4 cI x0 g0 g1 g2 g3 g4 l0 l1 l2 l3 l4 l5 t0 t1 t2 xr xt gn gu gb ga lc lk ln lt ll lr tw tn tt) ++ [(n4_0, .inr (0, [.ref g0, .int u4_0, .int u4_1]))])) hP hK hD hN hS hA [15, 1, 2, 3, 4, 5] [0, 6, 7, 8, 9, 10, 11, 12, 13, 14] rfl rfl (by decide) (by decide) (by decide) [0, 11, 12, 13, 14, 15, 1, 2, 3, 4, 5, 6, 7, 8, 9, 10] (by decide) (fun _ => rfl) (fun hg => va_runV (As := []) (rest := []) ⟨hx, hb, hml, hown, hts⟩ (c_X0_bestBySearch l D cI n4_0 g0 g1 g2 g3 g4 u4_0 u4_1 gn gu gb ga _ hq5) (cwV 0 hts gX4_causeOf_X0_bestBySearch rfl rfl rfl (by decide +kernel) ⟨Nat.le_of_ble_eq_true rfl, Nat.le_of_ble_eq_true rfl⟩) ⟨PW.blind, va_recv hK hP (ci := 0) (q0 := 15) rfl rfl, fun U hU hW => ⟨rfl, hg U hU hW⟩⟩ rfl rfl hl.1 rfl (lv_room (Nat.le_of_ble_eq_true rfl)) dX4_causeOf_21 ⟨Nat.le_of_ble_eq_true rfl, Nat.le_of_ble_eq_true rfl⟩) (fun r5 u H locs hw hP hD hS => ?_)
      subst hw
      refine lv_aload_n hx hb dX4_causeOf_24 rfl (lv_at hl 0 rfl) ?_
      refine va_get (D := D) (ci := 4) (v := .ref g0) (C := RX4) (T := TX4) (N := 5) hx hb hts (by decide +kernel) hown hK hP 0 rfl rfl 0 (by decide) (hts (.fieldLink RX4 10 "Alarmgrove" "graph" "LAlarmgrove$Graph;") (by decide +kernel)) (fun _ h9 => h9) rfl dX4_causeOf_25 ?_
      refine lv_iload_n hx hb dX4_causeOf_28 rfl (lv_at hl 1 rfl) ?_
      have hq6 := hp.1
      replace hp := hp.2
      refine k_calli (S := Unit) (wc := (W_X1 cI g0 g1 g2 g3 g4 gn gu gb ga)) (wr := ([(x0, .inr (4, [.ref g0, .ref l0, .ref t0, .int xr, .int xt]))] ++ (W_X2 cI l0 l1 l2 l3 l4 l5 lc lk ln lt ll lr) ++ (W_X3 cI t0 t1 t2 tw tn tt) ++ [(n4_0, .inr (0, [.ref g0, .int u4_0, .int u4_1]))])) (w1 := fun u => (W_X1 cI g0 g1 g2 g3 g4 gn gu gb ga)) (fun u => ((W_X4 cI x0 g0 g1 g2 g3 g4 l0 l1 l2 l3 l4 l5 t0 t1 t2 xr xt gn gu gb ga lc lk ln lt ll lr tw tn tt) ++ [(n4_0, .inr (0, [.ref g0, .int u4_0, .int u4_1]))])) hP hK hD hN hS hA [1, 2, 3, 4, 5] [0, 6, 7, 8, 9, 10, 11, 12, 13, 14, 15] rfl rfl (by decide) (by decide) (by decide) [0, 11, 12, 13, 14, 15, 1, 2, 3, 4, 5, 6, 7, 8, 9, 10] (by decide) (fun _ => rfl) (fun hg => va_runV (As := [.int a1]) (rest := [.int (f_X0_bestBySearch u4_0 u4_1 gb ga)]) ⟨hx, hb, hml, hown, hts⟩ (c_X1_explainersOf l D cI g0 g1 g2 g3 g4 gn gu gb ga _ a1 hq6) (cwV 1 hts gX4_causeOf_X1_explainersOf rfl rfl rfl (by decide +kernel) ⟨Nat.le_of_ble_eq_true rfl, Nat.le_of_ble_eq_true rfl⟩) ⟨PW.blind, va_recv hK hP (ci := 1) (q0 := 1) rfl rfl, fun U hU hW => ⟨rfl, hg U hU hW⟩⟩ rfl rfl hl.1 rfl (lv_room (Nat.le_of_ble_eq_true rfl)) dX4_causeOf_29 ⟨Nat.le_of_ble_eq_true rfl, Nat.le_of_ble_eq_true rfl⟩) (fun r6 u H locs hw hP hD hS => ?_)
      subst hw
      refine lv_iand hx hb dX4_causeOf_32 ?_
      refine lv_iconst (v := 0) hx hb dX4_causeOf_33 (by decide) ?_
      have hq7 := hp.1
      replace hp := hp.2
      refine k_calli (S := Unit) (wc := ([] : va_W)) (wr := ((W_X4 cI x0 g0 g1 g2 g3 g4 l0 l1 l2 l3 l4 l5 t0 t1 t2 xr xt gn gu gb ga lc lk ln lt ll lr tw tn tt) ++ [(n4_0, .inr (0, [.ref g0, .int u4_0, .int u4_1]))])) (w1 := fun u => ([] : va_W)) (fun u => ((W_X4 cI x0 g0 g1 g2 g3 g4 l0 l1 l2 l3 l4 l5 t0 t1 t2 xr xt gn gu gb ga lc lk ln lt ll lr tw tn tt) ++ [(n4_0, .inr (0, [.ref g0, .int u4_0, .int u4_1]))])) hP hK hD hN hS hA [] [0, 1, 2, 3, 4, 5, 6, 7, 8, 9, 10, 11, 12, 13, 14, 15] rfl rfl (by decide) (by decide) (by decide) [0, 1, 2, 3, 4, 5, 6, 7, 8, 9, 10, 11, 12, 13, 14, 15] (by decide) (fun _ => rfl) (fun hg => va_runS (As := [.int ((f_X0_bestBySearch u4_0 u4_1 gb ga) &&& (f_X1_explainersOf gb a1)), .int 0]) (rest := []) ⟨hx, hb, hml, hown, hts⟩ (c_X4_nodeAtPlace l D cI _ ((f_X0_bestBySearch u4_0 u4_1 gb ga) &&& (f_X1_explainersOf gb a1)) 0 hq7) (va_cwS 2 hts gX4_causeOf_X4_nodeAtPlace rfl rfl rfl (by decide +kernel) ⟨Nat.le_of_ble_eq_true rfl, Nat.le_of_ble_eq_true rfl⟩) ⟨PW.blind, fun U hU hW => ⟨rfl, hg U hU hW⟩⟩ rfl rfl hl.1 rfl (lv_room (Nat.le_of_ble_eq_true rfl)) dX4_causeOf_34 ⟨Nat.le_of_ble_eq_true rfl, Nat.le_of_ble_eq_true rfl⟩) (fun r7 u H locs hw hP hD hS => ?_)
      subst hw
      have hP : va_P D vwCl (W_X4 cI x0 g0 g1 g2 g3 g4 l0 l1 l2 l3 l4 l5 t0 t1 t2 xr xt gn gu gb ga lc lk ln lt ll lr tw tn tt) H := hP.sub [0, 1, 2, 3, 4, 5, 6, 7, 8, 9, 10, 11, 12, 13, 14] rfl
      have hD : va_D A (W_X4 cI x0 g0 g1 g2 g3 g4 l0 l1 l2 l3 l4 l5 t0 t1 t2 xr xt gn gu gb ga lc lk ln lt ll lr tw tn tt) := hD.sub [0, 1, 2, 3, 4, 5, 6, 7, 8, 9, 10, 11, 12, 13, 14] (by decide) rfl
      refine vx_ret ?_
      exact W.iret (v := (f_X4_nodeAtPlace ((f_X0_bestBySearch u4_0 u4_1 gb ga) &&& (f_X1_explainersOf gb a1)) (0 : Int32))) hx hb hr (fun t ht hW => ⟨⟨(f_X4_nodeAtPlace ((f_X0_bestBySearch u4_0 u4_1 gb ga) &&& (f_X1_explainersOf gb a1)) (0 : Int32)), (), rfl, he, by rw [ht]; exact hP, va_K.moved hW.alike hK, hD⟩, hS.F ht⟩) hS.2.2 dX4_causeOf_37
    · replace hp := hp.1 c3
      replace he := he.trans (if_pos c3)
      refine lv_iconst (v := (-1)) hx hb dX4_causeOf_15 (by decide) ?_
      refine W.widen (k := 2) (n := 9) (Nat.le_of_ble_eq_true rfl) (Nat.le_of_ble_eq_true rfl) ?_
      refine vx_ret ?_
      exact W.iret (v := (-1)) hx hb hr (fun t ht hW => ⟨⟨(-1), (), rfl, he, by rw [ht]; exact hP, va_K.moved hW.alike hK, hD⟩, hS.F ht⟩) hS.2.2 dX4_causeOf_16
