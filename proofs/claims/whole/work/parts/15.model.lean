abbrev rm_X5_init : Room := { frames := 1, cells := 11, slots := 2162, locals := 12 }
abbrev Q_X5_init (D : va_G) (cI : ClassId) (m0 : Nat) (A : Nat → Prop) : Array Value → State → Outcome → State → Prop := va_Qv (S := (AA × AA × AA × AA × AA × AA × AA × AA × AA × AA × AA) × (Nat × Nat × Nat × Nat × Nat × Nat × Nat × Nat × Nat × Nat × Nat)) (fun u => f_X5_init = u.1) (fun u t => QW D [(cI, .int)] A (W_X5 cI m0 u.2.1 u.2.2.1 u.2.2.2.1 u.2.2.2.2.1 u.2.2.2.2.2.1 u.2.2.2.2.2.2.1 u.2.2.2.2.2.2.2.1 u.2.2.2.2.2.2.2.2.1 u.2.2.2.2.2.2.2.2.2.1 u.2.2.2.2.2.2.2.2.2.2.1 u.2.2.2.2.2.2.2.2.2.2.2 0 0 0 0 0 u.1.1 u.1.2.1 u.1.2.2.1 u.1.2.2.2.1 u.1.2.2.2.2.1 u.1.2.2.2.2.2.1 u.1.2.2.2.2.2.2.1 u.1.2.2.2.2.2.2.2.1 u.1.2.2.2.2.2.2.2.2.1 u.1.2.2.2.2.2.2.2.2.2.1 u.1.2.2.2.2.2.2.2.2.2.2) t) A
set_option maxHeartbeats 4000000 in
set_option maxRecDepth 100000 in
theorem c_X5_init (l : Launch)  (D : va_G) (cI : ClassId) (m0 : Nat) (sz : Nat) : Met l yX5_init wsX5_init rm_X5_init (va_Pc [.ref m0] (PW D [(cI, .int)] sz [(m0, .inr (5, [.null, .null, .int 0, .null, .null, .null, .null, .null, .int 0, .null, .null, .null, .null, .int 0, .int 0, .int 0]))])) (Q_X5_init D cI m0 (va_A [(m0, .inr (5, [.null, .null, .int 0, .null, .null, .null, .null, .null, .int 0, .null, .null, .null, .null, .int 0, .int 0, .int 0]))] sz)) 11 2162 (va_A [(m0, .inr (5, [.null, .null, .int 0, .null, .null, .null, .null, .null, .int 0, .null, .null, .null, .null, .int 0, .int 0, .int 0]))] sz) := by
  refine Met.ofW (cc := cX5_init) (maxL := 1) (ret := none) (by decide) rfl ?_
  intro p e s m args below meth c s₁ B hml hv
  obtain ⟨rfl, hsz, hP, hK, hD0, hN⟩ := hv
  have hx := B.exec
  have hb := B.bytes
  have hr := B.returns
  have hts := atoms_spec (ws := wsX5_init) B.pre
  have hown : s.vm.findClass RX5 = some m.cls := findClass_of_methodNamed B.named
  have hlocks := B.notSynchronized
  have hin : meth.name = "<init>" := (name_of_methodNamed B.named B.method).1
  subst hsz
  have hD := hD0.self (sz := s.heap.size)
  generalize hAe : va_A [(m0, .inr (5, [.null, .null, .int 0, .null, .null, .null, .null, .null, .int 0, .null, .null, .null, .null, .int 0, .int 0, .int 0]))] s.heap.size = A at hD ⊢
  have hA : ∀ q : Nat, s.heap.size ≤ q → A q := fun q h => by rw [← hAe]; exact Or.inr h
  have hS : va_S A s.heap s.heap [] := va_S.rf
  have hl := lv_entry ([.ref m0]) (n := 1) (Nat.le_of_ble_eq_true rfl)
  rw [lg_entry_eq]
  generalize (lg_sl ([.ref m0]) ++ List.replicate (1 - (lg_sl ([.ref m0])).length) Slot.unset).toArray = ls at hl ⊢
  have hl : lv_has ls 1 [(0, .ref m0)] := hl
  have he := f_X5_init.eq_1
  refine lv_aload_n hx hb dX5_init_0 rfl (lv_at hl 0 rfl) ?_
  refine W.objInit hx hb hown (hts (.methodLink RX5 1 objectInit) (by decide +kernel)) (hts (.instanceMethod objectInit) (by decide +kernel)) (hts (.code objectInit ⟨#[0xb1]⟩ 1 none) (by decide +kernel)) rfl (by rw [hml]; exact hl.1) rfl dX5_init_1 (Nat.le_of_ble_eq_true rfl) (Nat.le_of_ble_eq_true rfl) ?_
  refine W.eq (g2 := F0 m 4 ls []) rfl ?_
  refine lv_aload_n hx hb dX5_init_4 rfl (lv_at hl 0 rfl) ?_
  refine lv_bipush (v := 14) hx hb dX5_init_5 (by decide) ?_
  refine k_newI (N' := 14) hx hb (hts (.arrayClass .int) (by decide +kernel)) hK hP hD hS hA (by decide) (by decide) (by decide) (Nat.le_of_ble_eq_true rfl) (Nat.le_of_ble_eq_true rfl) dX5_init_7 (fun q7 H hP hD hS => ?_)
  have hP : va_P D vwCl ([(m0, .inr (5, [.null, .null, .int 0, .null, .null, .null, .null, .null, .int 0, .null, .null, .null, .null, .int 0, .int 0, .int 0]))] ++ (W_A cI q7 (fun _ => 0))) H := hP
  have hD : va_D A ([(m0, .inr (5, [.null, .null, .int 0, .null, .null, .null, .null, .null, .int 0, .null, .null, .null, .null, .int 0, .int 0, .int 0]))] ++ (W_A cI q7 (fun _ => 0))) := hD
  refine va_putF (D := D) (ci := 5) (v := .ref q7) (ty := (.array .int)) (C := RX5) (T := TX5) (N := 16) hx hb hts (by decide +kernel) tyX5 tyX5_ok nmX5 hown hK hP hD hS 0 rfl rfl 0 (by decide) (hts (.fieldLink RX5 7 "AlarmgroveModel" "needs" "[I") (by decide +kernel)) (fun _ h9 => h9) rfl hin rfl (by decide +kernel) rfl rfl (Nat.le_of_ble_eq_true rfl) dX5_init_9 (fun H locs hP hD hS => ?_)
  have hP : va_P D vwCl ([(m0, .inr (5, [.ref q7, .null, .int 0, .null, .null, .null, .null, .null, .int 0, .null, .null, .null, .null, .int 0, .int 0, .int 0]))] ++ (W_A cI q7 (fun _ => 0))) H := hP
  have hD : va_D A ([(m0, .inr (5, [.ref q7, .null, .int 0, .null, .null, .null, .null, .null, .int 0, .null, .null, .null, .null, .int 0, .int 0, .int 0]))] ++ (W_A cI q7 (fun _ => 0))) := hD
  refine lv_aload_n hx hb dX5_init_12 rfl (lv_at hl 0 rfl) ?_
  refine lv_bipush (v := 14) hx hb dX5_init_13 (by decide) ?_
  refine k_newI (N' := 14) hx hb (hts (.arrayClass .int) (by decide +kernel)) hK hP hD hS hA (by decide) (by decide) (by decide) (Nat.le_of_ble_eq_true rfl) (Nat.le_of_ble_eq_true rfl) dX5_init_15 (fun q15 H hP hD hS => ?_)
  have hP : va_P D vwCl ([(m0, .inr (5, [.ref q7, .null, .int 0, .null, .null, .null, .null, .null, .int 0, .null, .null, .null, .null, .int 0, .int 0, .int 0]))] ++ (W_A cI q7 (fun _ => 0)) ++ (W_A cI q15 (fun _ => 0))) H := hP
  have hD : va_D A ([(m0, .inr (5, [.ref q7, .null, .int 0, .null, .null, .null, .null, .null, .int 0, .null, .null, .null, .null, .int 0, .int 0, .int 0]))] ++ (W_A cI q7 (fun _ => 0)) ++ (W_A cI q15 (fun _ => 0))) := hD
  refine va_putF (D := D) (ci := 5) (v := .ref q15) (ty := (.array .int)) (C := RX5) (T := TX5) (N := 16) hx hb hts (by decide +kernel) tyX5 tyX5_ok nmX5 hown hK hP hD hS 0 rfl rfl 1 (by decide) (hts (.fieldLink RX5 13 "AlarmgroveModel" "under" "[I") (by decide +kernel)) (fun _ h9 => h9) rfl hin rfl (by decide +kernel) rfl rfl (Nat.le_of_ble_eq_true rfl) dX5_init_17 (fun H locs hP hD hS => ?_)
  have hP : va_P D vwCl ([(m0, .inr (5, [.ref q7, .ref q15, .int 0, .null, .null, .null, .null, .null, .int 0, .null, .null, .null, .null, .int 0, .int 0, .int 0]))] ++ (W_A cI q7 (fun _ => 0)) ++ (W_A cI q15 (fun _ => 0))) H := hP
  have hD : va_D A ([(m0, .inr (5, [.ref q7, .ref q15, .int 0, .null, .null, .null, .null, .null, .int 0, .null, .null, .null, .null, .int 0, .int 0, .int 0]))] ++ (W_A cI q7 (fun _ => 0)) ++ (W_A cI q15 (fun _ => 0))) := hD
  refine lv_aload_n hx hb dX5_init_20 rfl (lv_at hl 0 rfl) ?_
  refine lv_bipush (v := 14) hx hb dX5_init_21 (by decide) ?_
  refine k_newI (N' := 14) hx hb (hts (.arrayClass .int) (by decide +kernel)) hK hP hD hS hA (by decide) (by decide) (by decide) (Nat.le_of_ble_eq_true rfl) (Nat.le_of_ble_eq_true rfl) dX5_init_23 (fun q23 H hP hD hS => ?_)
  have hP : va_P D vwCl ([(m0, .inr (5, [.ref q7, .ref q15, .int 0, .null, .null, .null, .null, .null, .int 0, .null, .null, .null, .null, .int 0, .int 0, .int 0]))] ++ (W_A cI q7 (fun _ => 0)) ++ (W_A cI q15 (fun _ => 0)) ++ (W_A cI q23 (fun _ => 0))) H := hP
  have hD : va_D A ([(m0, .inr (5, [.ref q7, .ref q15, .int 0, .null, .null, .null, .null, .null, .int 0, .null, .null, .null, .null, .int 0, .int 0, .int 0]))] ++ (W_A cI q7 (fun _ => 0)) ++ (W_A cI q15 (fun _ => 0)) ++ (W_A cI q23 (fun _ => 0))) := hD
  refine va_putF (D := D) (ci := 5) (v := .ref q23) (ty := (.array .int)) (C := RX5) (T := TX5) (N := 16) hx hb hts (by decide +kernel) tyX5 tyX5_ok nmX5 hown hK hP hD hS 0 rfl rfl 3 (by decide) (hts (.fieldLink RX5 16 "AlarmgroveModel" "since" "[I") (by decide +kernel)) (fun _ h9 => h9) rfl hin rfl (by decide +kernel) rfl rfl (Nat.le_of_ble_eq_true rfl) dX5_init_25 (fun H locs hP hD hS => ?_)
  have hP : va_P D vwCl ([(m0, .inr (5, [.ref q7, .ref q15, .int 0, .ref q23, .null, .null, .null, .null, .int 0, .null, .null, .null, .null, .int 0, .int 0, .int 0]))] ++ (W_A cI q7 (fun _ => 0)) ++ (W_A cI q15 (fun _ => 0)) ++ (W_A cI q23 (fun _ => 0))) H := hP
  have hD : va_D A ([(m0, .inr (5, [.ref q7, .ref q15, .int 0, .ref q23, .null, .null, .null, .null, .int 0, .null, .null, .null, .null, .int 0, .int 0, .int 0]))] ++ (W_A cI q7 (fun _ => 0)) ++ (W_A cI q15 (fun _ => 0)) ++ (W_A cI q23 (fun _ => 0))) := hD
  refine lv_aload_n hx hb dX5_init_28 rfl (lv_at hl 0 rfl) ?_
  refine lv_bipush (v := 14) hx hb dX5_init_29 (by decide) ?_
  refine k_newI (N' := 14) hx hb (hts (.arrayClass .int) (by decide +kernel)) hK hP hD hS hA (by decide) (by decide) (by decide) (Nat.le_of_ble_eq_true rfl) (Nat.le_of_ble_eq_true rfl) dX5_init_31 (fun q31 H hP hD hS => ?_)
  have hP : va_P D vwCl ([(m0, .inr (5, [.ref q7, .ref q15, .int 0, .ref q23, .null, .null, .null, .null, .int 0, .null, .null, .null, .null, .int 0, .int 0, .int 0]))] ++ (W_A cI q7 (fun _ => 0)) ++ (W_A cI q15 (fun _ => 0)) ++ (W_A cI q23 (fun _ => 0)) ++ (W_A cI q31 (fun _ => 0))) H := hP
  have hD : va_D A ([(m0, .inr (5, [.ref q7, .ref q15, .int 0, .ref q23, .null, .null, .null, .null, .int 0, .null, .null, .null, .null, .int 0, .int 0, .int 0]))] ++ (W_A cI q7 (fun _ => 0)) ++ (W_A cI q15 (fun _ => 0)) ++ (W_A cI q23 (fun _ => 0)) ++ (W_A cI q31 (fun _ => 0))) := hD
  refine va_putF (D := D) (ci := 5) (v := .ref q31) (ty := (.array .int)) (C := RX5) (T := TX5) (N := 16) hx hb hts (by decide +kernel) tyX5 tyX5_ok nmX5 hown hK hP hD hS 0 rfl rfl 4 (by decide) (hts (.fieldLink RX5 19 "AlarmgroveModel" "ticket" "[I") (by decide +kernel)) (fun _ h9 => h9) rfl hin rfl (by decide +kernel) rfl rfl (Nat.le_of_ble_eq_true rfl) dX5_init_33 (fun H locs hP hD hS => ?_)
  have hP : va_P D vwCl ([(m0, .inr (5, [.ref q7, .ref q15, .int 0, .ref q23, .ref q31, .null, .null, .null, .int 0, .null, .null, .null, .null, .int 0, .int 0, .int 0]))] ++ (W_A cI q7 (fun _ => 0)) ++ (W_A cI q15 (fun _ => 0)) ++ (W_A cI q23 (fun _ => 0)) ++ (W_A cI q31 (fun _ => 0))) H := hP
  have hD : va_D A ([(m0, .inr (5, [.ref q7, .ref q15, .int 0, .ref q23, .ref q31, .null, .null, .null, .int 0, .null, .null, .null, .null, .int 0, .int 0, .int 0]))] ++ (W_A cI q7 (fun _ => 0)) ++ (W_A cI q15 (fun _ => 0)) ++ (W_A cI q23 (fun _ => 0)) ++ (W_A cI q31 (fun _ => 0))) := hD
  refine lv_aload_n hx hb dX5_init_36 rfl (lv_at hl 0 rfl) ?_
  refine lv_sipush (v := 302) hx hb dX5_init_37 (by decide) ?_
  refine k_newI (N' := 302) hx hb (hts (.arrayClass .int) (by decide +kernel)) hK hP hD hS hA (by decide) (by decide) (by decide) (Nat.le_of_ble_eq_true rfl) (Nat.le_of_ble_eq_true rfl) dX5_init_40 (fun q40 H hP hD hS => ?_)
  have hP : va_P D vwCl ([(m0, .inr (5, [.ref q7, .ref q15, .int 0, .ref q23, .ref q31, .null, .null, .null, .int 0, .null, .null, .null, .null, .int 0, .int 0, .int 0]))] ++ (W_A cI q7 (fun _ => 0)) ++ (W_A cI q15 (fun _ => 0)) ++ (W_A cI q23 (fun _ => 0)) ++ (W_A cI q31 (fun _ => 0)) ++ [(q40, .inl (cI, 302, .inl (fun _ => 0)))]) H := hP
  have hD : va_D A ([(m0, .inr (5, [.ref q7, .ref q15, .int 0, .ref q23, .ref q31, .null, .null, .null, .int 0, .null, .null, .null, .null, .int 0, .int 0, .int 0]))] ++ (W_A cI q7 (fun _ => 0)) ++ (W_A cI q15 (fun _ => 0)) ++ (W_A cI q23 (fun _ => 0)) ++ (W_A cI q31 (fun _ => 0)) ++ [(q40, .inl (cI, 302, .inl (fun _ => 0)))]) := hD
  refine va_putF (D := D) (ci := 5) (v := .ref q40) (ty := (.array .int)) (C := RX5) (T := TX5) (N := 16) hx hb hts (by decide +kernel) tyX5 tyX5_ok nmX5 hown hK hP hD hS 0 rfl rfl 5 (by decide) (hts (.fieldLink RX5 22 "AlarmgroveModel" "nodes" "[I") (by decide +kernel)) (fun _ h9 => h9) rfl hin rfl (by decide +kernel) rfl rfl (Nat.le_of_ble_eq_true rfl) dX5_init_42 (fun H locs hP hD hS => ?_)
  have hP : va_P D vwCl ([(m0, .inr (5, [.ref q7, .ref q15, .int 0, .ref q23, .ref q31, .ref q40, .null, .null, .int 0, .null, .null, .null, .null, .int 0, .int 0, .int 0]))] ++ (W_A cI q7 (fun _ => 0)) ++ (W_A cI q15 (fun _ => 0)) ++ (W_A cI q23 (fun _ => 0)) ++ (W_A cI q31 (fun _ => 0)) ++ [(q40, .inl (cI, 302, .inl (fun _ => 0)))]) H := hP
  have hD : va_D A ([(m0, .inr (5, [.ref q7, .ref q15, .int 0, .ref q23, .ref q31, .ref q40, .null, .null, .int 0, .null, .null, .null, .null, .int 0, .int 0, .int 0]))] ++ (W_A cI q7 (fun _ => 0)) ++ (W_A cI q15 (fun _ => 0)) ++ (W_A cI q23 (fun _ => 0)) ++ (W_A cI q31 (fun _ => 0)) ++ [(q40, .inl (cI, 302, .inl (fun _ => 0)))]) := hD
  refine lv_aload_n hx hb dX5_init_45 rfl (lv_at hl 0 rfl) ?_
  refine lv_sipush (v := 302) hx hb dX5_init_46 (by decide) ?_
  refine k_newI (N' := 302) hx hb (hts (.arrayClass .int) (by decide +kernel)) hK hP hD hS hA (by decide) (by decide) (by decide) (Nat.le_of_ble_eq_true rfl) (Nat.le_of_ble_eq_true rfl) dX5_init_49 (fun q49 H hP hD hS => ?_)
  have hP : va_P D vwCl ([(m0, .inr (5, [.ref q7, .ref q15, .int 0, .ref q23, .ref q31, .ref q40, .null, .null, .int 0, .null, .null, .null, .null, .int 0, .int 0, .int 0]))] ++ (W_A cI q7 (fun _ => 0)) ++ (W_A cI q15 (fun _ => 0)) ++ (W_A cI q23 (fun _ => 0)) ++ (W_A cI q31 (fun _ => 0)) ++ [(q40, .inl (cI, 302, .inl (fun _ => 0))), (q49, .inl (cI, 302, .inl (fun _ => 0)))]) H := hP
  have hD : va_D A ([(m0, .inr (5, [.ref q7, .ref q15, .int 0, .ref q23, .ref q31, .ref q40, .null, .null, .int 0, .null, .null, .null, .null, .int 0, .int 0, .int 0]))] ++ (W_A cI q7 (fun _ => 0)) ++ (W_A cI q15 (fun _ => 0)) ++ (W_A cI q23 (fun _ => 0)) ++ (W_A cI q31 (fun _ => 0)) ++ [(q40, .inl (cI, 302, .inl (fun _ => 0))), (q49, .inl (cI, 302, .inl (fun _ => 0)))]) := hD
  refine va_putF (D := D) (ci := 5) (v := .ref q49) (ty := (.array .int)) (C := RX5) (T := TX5) (N := 16) hx hb hts (by decide +kernel) tyX5 tyX5_ok nmX5 hown hK hP hD hS 0 rfl rfl 6 (by decide) (hts (.fieldLink RX5 25 "AlarmgroveModel" "states" "[I") (by decide +kernel)) (fun _ h9 => h9) rfl hin rfl (by decide +kernel) rfl rfl (Nat.le_of_ble_eq_true rfl) dX5_init_51 (fun H locs hP hD hS => ?_)
  have hP : va_P D vwCl ([(m0, .inr (5, [.ref q7, .ref q15, .int 0, .ref q23, .ref q31, .ref q40, .ref q49, .null, .int 0, .null, .null, .null, .null, .int 0, .int 0, .int 0]))] ++ (W_A cI q7 (fun _ => 0)) ++ (W_A cI q15 (fun _ => 0)) ++ (W_A cI q23 (fun _ => 0)) ++ (W_A cI q31 (fun _ => 0)) ++ [(q40, .inl (cI, 302, .inl (fun _ => 0))), (q49, .inl (cI, 302, .inl (fun _ => 0)))]) H := hP
  have hD : va_D A ([(m0, .inr (5, [.ref q7, .ref q15, .int 0, .ref q23, .ref q31, .ref q40, .ref q49, .null, .int 0, .null, .null, .null, .null, .int 0, .int 0, .int 0]))] ++ (W_A cI q7 (fun _ => 0)) ++ (W_A cI q15 (fun _ => 0)) ++ (W_A cI q23 (fun _ => 0)) ++ (W_A cI q31 (fun _ => 0)) ++ [(q40, .inl (cI, 302, .inl (fun _ => 0))), (q49, .inl (cI, 302, .inl (fun _ => 0)))]) := hD
  refine lv_aload_n hx hb dX5_init_54 rfl (lv_at hl 0 rfl) ?_
  refine lv_sipush (v := 302) hx hb dX5_init_55 (by decide) ?_
  refine k_newI (N' := 302) hx hb (hts (.arrayClass .int) (by decide +kernel)) hK hP hD hS hA (by decide) (by decide) (by decide) (Nat.le_of_ble_eq_true rfl) (Nat.le_of_ble_eq_true rfl) dX5_init_58 (fun q58 H hP hD hS => ?_)
  have hP : va_P D vwCl ([(m0, .inr (5, [.ref q7, .ref q15, .int 0, .ref q23, .ref q31, .ref q40, .ref q49, .null, .int 0, .null, .null, .null, .null, .int 0, .int 0, .int 0]))] ++ (W_A cI q7 (fun _ => 0)) ++ (W_A cI q15 (fun _ => 0)) ++ (W_A cI q23 (fun _ => 0)) ++ (W_A cI q31 (fun _ => 0)) ++ [(q40, .inl (cI, 302, .inl (fun _ => 0))), (q49, .inl (cI, 302, .inl (fun _ => 0))), (q58, .inl (cI, 302, .inl (fun _ => 0)))]) H := hP
  have hD : va_D A ([(m0, .inr (5, [.ref q7, .ref q15, .int 0, .ref q23, .ref q31, .ref q40, .ref q49, .null, .int 0, .null, .null, .null, .null, .int 0, .int 0, .int 0]))] ++ (W_A cI q7 (fun _ => 0)) ++ (W_A cI q15 (fun _ => 0)) ++ (W_A cI q23 (fun _ => 0)) ++ (W_A cI q31 (fun _ => 0)) ++ [(q40, .inl (cI, 302, .inl (fun _ => 0))), (q49, .inl (cI, 302, .inl (fun _ => 0))), (q58, .inl (cI, 302, .inl (fun _ => 0)))]) := hD
  refine va_putF (D := D) (ci := 5) (v := .ref q58) (ty := (.array .int)) (C := RX5) (T := TX5) (N := 16) hx hb hts (by decide +kernel) tyX5 tyX5_ok nmX5 hown hK hP hD hS 0 rfl rfl 7 (by decide) (hts (.fieldLink RX5 28 "AlarmgroveModel" "into" "[I") (by decide +kernel)) (fun _ h9 => h9) rfl hin rfl (by decide +kernel) rfl rfl (Nat.le_of_ble_eq_true rfl) dX5_init_60 (fun H locs hP hD hS => ?_)
  have hP : va_P D vwCl ([(m0, .inr (5, [.ref q7, .ref q15, .int 0, .ref q23, .ref q31, .ref q40, .ref q49, .ref q58, .int 0, .null, .null, .null, .null, .int 0, .int 0, .int 0]))] ++ (W_A cI q7 (fun _ => 0)) ++ (W_A cI q15 (fun _ => 0)) ++ (W_A cI q23 (fun _ => 0)) ++ (W_A cI q31 (fun _ => 0)) ++ [(q40, .inl (cI, 302, .inl (fun _ => 0))), (q49, .inl (cI, 302, .inl (fun _ => 0))), (q58, .inl (cI, 302, .inl (fun _ => 0)))]) H := hP
  have hD : va_D A ([(m0, .inr (5, [.ref q7, .ref q15, .int 0, .ref q23, .ref q31, .ref q40, .ref q49, .ref q58, .int 0, .null, .null, .null, .null, .int 0, .int 0, .int 0]))] ++ (W_A cI q7 (fun _ => 0)) ++ (W_A cI q15 (fun _ => 0)) ++ (W_A cI q23 (fun _ => 0)) ++ (W_A cI q31 (fun _ => 0)) ++ [(q40, .inl (cI, 302, .inl (fun _ => 0))), (q49, .inl (cI, 302, .inl (fun _ => 0))), (q58, .inl (cI, 302, .inl (fun _ => 0)))]) := hD
  refine lv_aload_n hx hb dX5_init_63 rfl (lv_at hl 0 rfl) ?_
  refine lv_sipush (v := 300) hx hb dX5_init_64 (by decide) ?_
  refine k_newI (N' := 300) hx hb (hts (.arrayClass .int) (by decide +kernel)) hK hP hD hS hA (by decide) (by decide) (by decide) (Nat.le_of_ble_eq_true rfl) (Nat.le_of_ble_eq_true rfl) dX5_init_67 (fun q67 H hP hD hS => ?_)
  have hP : va_P D vwCl ([(m0, .inr (5, [.ref q7, .ref q15, .int 0, .ref q23, .ref q31, .ref q40, .ref q49, .ref q58, .int 0, .null, .null, .null, .null, .int 0, .int 0, .int 0]))] ++ (W_A cI q7 (fun _ => 0)) ++ (W_A cI q15 (fun _ => 0)) ++ (W_A cI q23 (fun _ => 0)) ++ (W_A cI q31 (fun _ => 0)) ++ [(q40, .inl (cI, 302, .inl (fun _ => 0))), (q49, .inl (cI, 302, .inl (fun _ => 0))), (q58, .inl (cI, 302, .inl (fun _ => 0))), (q67, .inl (cI, 300, .inl (fun _ => 0)))]) H := hP
  have hD : va_D A ([(m0, .inr (5, [.ref q7, .ref q15, .int 0, .ref q23, .ref q31, .ref q40, .ref q49, .ref q58, .int 0, .null, .null, .null, .null, .int 0, .int 0, .int 0]))] ++ (W_A cI q7 (fun _ => 0)) ++ (W_A cI q15 (fun _ => 0)) ++ (W_A cI q23 (fun _ => 0)) ++ (W_A cI q31 (fun _ => 0)) ++ [(q40, .inl (cI, 302, .inl (fun _ => 0))), (q49, .inl (cI, 302, .inl (fun _ => 0))), (q58, .inl (cI, 302, .inl (fun _ => 0))), (q67, .inl (cI, 300, .inl (fun _ => 0)))]) := hD
  refine va_putF (D := D) (ci := 5) (v := .ref q67) (ty := (.array .int)) (C := RX5) (T := TX5) (N := 16) hx hb hts (by decide +kernel) tyX5 tyX5_ok nmX5 hown hK hP hD hS 0 rfl rfl 9 (by decide) (hts (.fieldLink RX5 31 "AlarmgroveModel" "kind" "[I") (by decide +kernel)) (fun _ h9 => h9) rfl hin rfl (by decide +kernel) rfl rfl (Nat.le_of_ble_eq_true rfl) dX5_init_69 (fun H locs hP hD hS => ?_)
  have hP : va_P D vwCl ([(m0, .inr (5, [.ref q7, .ref q15, .int 0, .ref q23, .ref q31, .ref q40, .ref q49, .ref q58, .int 0, .ref q67, .null, .null, .null, .int 0, .int 0, .int 0]))] ++ (W_A cI q7 (fun _ => 0)) ++ (W_A cI q15 (fun _ => 0)) ++ (W_A cI q23 (fun _ => 0)) ++ (W_A cI q31 (fun _ => 0)) ++ [(q40, .inl (cI, 302, .inl (fun _ => 0))), (q49, .inl (cI, 302, .inl (fun _ => 0))), (q58, .inl (cI, 302, .inl (fun _ => 0))), (q67, .inl (cI, 300, .inl (fun _ => 0)))]) H := hP
  have hD : va_D A ([(m0, .inr (5, [.ref q7, .ref q15, .int 0, .ref q23, .ref q31, .ref q40, .ref q49, .ref q58, .int 0, .ref q67, .null, .null, .null, .int 0, .int 0, .int 0]))] ++ (W_A cI q7 (fun _ => 0)) ++ (W_A cI q15 (fun _ => 0)) ++ (W_A cI q23 (fun _ => 0)) ++ (W_A cI q31 (fun _ => 0)) ++ [(q40, .inl (cI, 302, .inl (fun _ => 0))), (q49, .inl (cI, 302, .inl (fun _ => 0))), (q58, .inl (cI, 302, .inl (fun _ => 0))), (q67, .inl (cI, 300, .inl (fun _ => 0)))]) := hD
  refine lv_aload_n hx hb dX5_init_72 rfl (lv_at hl 0 rfl) ?_
  refine lv_sipush (v := 300) hx hb dX5_init_73 (by decide) ?_
  refine k_newI (N' := 300) hx hb (hts (.arrayClass .int) (by decide +kernel)) hK hP hD hS hA (by decide) (by decide) (by decide) (Nat.le_of_ble_eq_true rfl) (Nat.le_of_ble_eq_true rfl) dX5_init_76 (fun q76 H hP hD hS => ?_)
  have hP : va_P D vwCl ([(m0, .inr (5, [.ref q7, .ref q15, .int 0, .ref q23, .ref q31, .ref q40, .ref q49, .ref q58, .int 0, .ref q67, .null, .null, .null, .int 0, .int 0, .int 0]))] ++ (W_A cI q7 (fun _ => 0)) ++ (W_A cI q15 (fun _ => 0)) ++ (W_A cI q23 (fun _ => 0)) ++ (W_A cI q31 (fun _ => 0)) ++ [(q40, .inl (cI, 302, .inl (fun _ => 0))), (q49, .inl (cI, 302, .inl (fun _ => 0))), (q58, .inl (cI, 302, .inl (fun _ => 0))), (q67, .inl (cI, 300, .inl (fun _ => 0))), (q76, .inl (cI, 300, .inl (fun _ => 0)))]) H := hP
  have hD : va_D A ([(m0, .inr (5, [.ref q7, .ref q15, .int 0, .ref q23, .ref q31, .ref q40, .ref q49, .ref q58, .int 0, .ref q67, .null, .null, .null, .int 0, .int 0, .int 0]))] ++ (W_A cI q7 (fun _ => 0)) ++ (W_A cI q15 (fun _ => 0)) ++ (W_A cI q23 (fun _ => 0)) ++ (W_A cI q31 (fun _ => 0)) ++ [(q40, .inl (cI, 302, .inl (fun _ => 0))), (q49, .inl (cI, 302, .inl (fun _ => 0))), (q58, .inl (cI, 302, .inl (fun _ => 0))), (q67, .inl (cI, 300, .inl (fun _ => 0))), (q76, .inl (cI, 300, .inl (fun _ => 0)))]) := hD
  refine va_putF (D := D) (ci := 5) (v := .ref q76) (ty := (.array .int)) (C := RX5) (T := TX5) (N := 16) hx hb hts (by decide +kernel) tyX5 tyX5_ok nmX5 hown hK hP hD hS 0 rfl rfl 10 (by decide) (hts (.fieldLink RX5 34 "AlarmgroveModel" "node" "[I") (by decide +kernel)) (fun _ h9 => h9) rfl hin rfl (by decide +kernel) rfl rfl (Nat.le_of_ble_eq_true rfl) dX5_init_78 (fun H locs hP hD hS => ?_)
  have hP : va_P D vwCl ([(m0, .inr (5, [.ref q7, .ref q15, .int 0, .ref q23, .ref q31, .ref q40, .ref q49, .ref q58, .int 0, .ref q67, .ref q76, .null, .null, .int 0, .int 0, .int 0]))] ++ (W_A cI q7 (fun _ => 0)) ++ (W_A cI q15 (fun _ => 0)) ++ (W_A cI q23 (fun _ => 0)) ++ (W_A cI q31 (fun _ => 0)) ++ [(q40, .inl (cI, 302, .inl (fun _ => 0))), (q49, .inl (cI, 302, .inl (fun _ => 0))), (q58, .inl (cI, 302, .inl (fun _ => 0))), (q67, .inl (cI, 300, .inl (fun _ => 0))), (q76, .inl (cI, 300, .inl (fun _ => 0)))]) H := hP
  have hD : va_D A ([(m0, .inr (5, [.ref q7, .ref q15, .int 0, .ref q23, .ref q31, .ref q40, .ref q49, .ref q58, .int 0, .ref q67, .ref q76, .null, .null, .int 0, .int 0, .int 0]))] ++ (W_A cI q7 (fun _ => 0)) ++ (W_A cI q15 (fun _ => 0)) ++ (W_A cI q23 (fun _ => 0)) ++ (W_A cI q31 (fun _ => 0)) ++ [(q40, .inl (cI, 302, .inl (fun _ => 0))), (q49, .inl (cI, 302, .inl (fun _ => 0))), (q58, .inl (cI, 302, .inl (fun _ => 0))), (q67, .inl (cI, 300, .inl (fun _ => 0))), (q76, .inl (cI, 300, .inl (fun _ => 0)))]) := hD
  refine lv_aload_n hx hb dX5_init_81 rfl (lv_at hl 0 rfl) ?_
  refine lv_sipush (v := 300) hx hb dX5_init_82 (by decide) ?_
  refine k_newI (N' := 300) hx hb (hts (.arrayClass .int) (by decide +kernel)) hK hP hD hS hA (by decide) (by decide) (by decide) (Nat.le_of_ble_eq_true rfl) (Nat.le_of_ble_eq_true rfl) dX5_init_85 (fun q85 H hP hD hS => ?_)
  have hP : va_P D vwCl ([(m0, .inr (5, [.ref q7, .ref q15, .int 0, .ref q23, .ref q31, .ref q40, .ref q49, .ref q58, .int 0, .ref q67, .ref q76, .null, .null, .int 0, .int 0, .int 0]))] ++ (W_A cI q7 (fun _ => 0)) ++ (W_A cI q15 (fun _ => 0)) ++ (W_A cI q23 (fun _ => 0)) ++ (W_A cI q31 (fun _ => 0)) ++ [(q40, .inl (cI, 302, .inl (fun _ => 0))), (q49, .inl (cI, 302, .inl (fun _ => 0))), (q58, .inl (cI, 302, .inl (fun _ => 0))), (q67, .inl (cI, 300, .inl (fun _ => 0))), (q76, .inl (cI, 300, .inl (fun _ => 0))), (q85, .inl (cI, 300, .inl (fun _ => 0)))]) H := hP
  have hD : va_D A ([(m0, .inr (5, [.ref q7, .ref q15, .int 0, .ref q23, .ref q31, .ref q40, .ref q49, .ref q58, .int 0, .ref q67, .ref q76, .null, .null, .int 0, .int 0, .int 0]))] ++ (W_A cI q7 (fun _ => 0)) ++ (W_A cI q15 (fun _ => 0)) ++ (W_A cI q23 (fun _ => 0)) ++ (W_A cI q31 (fun _ => 0)) ++ [(q40, .inl (cI, 302, .inl (fun _ => 0))), (q49, .inl (cI, 302, .inl (fun _ => 0))), (q58, .inl (cI, 302, .inl (fun _ => 0))), (q67, .inl (cI, 300, .inl (fun _ => 0))), (q76, .inl (cI, 300, .inl (fun _ => 0))), (q85, .inl (cI, 300, .inl (fun _ => 0)))]) := hD
  refine va_putF (D := D) (ci := 5) (v := .ref q85) (ty := (.array .int)) (C := RX5) (T := TX5) (N := 16) hx hb hts (by decide +kernel) tyX5 tyX5_ok nmX5 hown hK hP hD hS 0 rfl rfl 11 (by decide) (hts (.fieldLink RX5 37 "AlarmgroveModel" "time" "[I") (by decide +kernel)) (fun _ h9 => h9) rfl hin rfl (by decide +kernel) rfl rfl (Nat.le_of_ble_eq_true rfl) dX5_init_87 (fun H locs hP hD hS => ?_)
  have hP : va_P D vwCl ([(m0, .inr (5, [.ref q7, .ref q15, .int 0, .ref q23, .ref q31, .ref q40, .ref q49, .ref q58, .int 0, .ref q67, .ref q76, .ref q85, .null, .int 0, .int 0, .int 0]))] ++ (W_A cI q7 (fun _ => 0)) ++ (W_A cI q15 (fun _ => 0)) ++ (W_A cI q23 (fun _ => 0)) ++ (W_A cI q31 (fun _ => 0)) ++ [(q40, .inl (cI, 302, .inl (fun _ => 0))), (q49, .inl (cI, 302, .inl (fun _ => 0))), (q58, .inl (cI, 302, .inl (fun _ => 0))), (q67, .inl (cI, 300, .inl (fun _ => 0))), (q76, .inl (cI, 300, .inl (fun _ => 0))), (q85, .inl (cI, 300, .inl (fun _ => 0)))]) H := hP
  have hD : va_D A ([(m0, .inr (5, [.ref q7, .ref q15, .int 0, .ref q23, .ref q31, .ref q40, .ref q49, .ref q58, .int 0, .ref q67, .ref q76, .ref q85, .null, .int 0, .int 0, .int 0]))] ++ (W_A cI q7 (fun _ => 0)) ++ (W_A cI q15 (fun _ => 0)) ++ (W_A cI q23 (fun _ => 0)) ++ (W_A cI q31 (fun _ => 0)) ++ [(q40, .inl (cI, 302, .inl (fun _ => 0))), (q49, .inl (cI, 302, .inl (fun _ => 0))), (q58, .inl (cI, 302, .inl (fun _ => 0))), (q67, .inl (cI, 300, .inl (fun _ => 0))), (q76, .inl (cI, 300, .inl (fun _ => 0))), (q85, .inl (cI, 300, .inl (fun _ => 0)))]) := hD
  refine lv_aload_n hx hb dX5_init_90 rfl (lv_at hl 0 rfl) ?_
  refine lv_sipush (v := 300) hx hb dX5_init_91 (by decide) ?_
  refine k_newI (N' := 300) hx hb (hts (.arrayClass .int) (by decide +kernel)) hK hP hD hS hA (by decide) (by decide) (by decide) (Nat.le_of_ble_eq_true rfl) (Nat.le_of_ble_eq_true rfl) dX5_init_94 (fun q94 H hP hD hS => ?_)
  have hP : va_P D vwCl ([(m0, .inr (5, [.ref q7, .ref q15, .int 0, .ref q23, .ref q31, .ref q40, .ref q49, .ref q58, .int 0, .ref q67, .ref q76, .ref q85, .null, .int 0, .int 0, .int 0]))] ++ (W_A cI q7 (fun _ => 0)) ++ (W_A cI q15 (fun _ => 0)) ++ (W_A cI q23 (fun _ => 0)) ++ (W_A cI q31 (fun _ => 0)) ++ [(q40, .inl (cI, 302, .inl (fun _ => 0))), (q49, .inl (cI, 302, .inl (fun _ => 0))), (q58, .inl (cI, 302, .inl (fun _ => 0))), (q67, .inl (cI, 300, .inl (fun _ => 0))), (q76, .inl (cI, 300, .inl (fun _ => 0))), (q85, .inl (cI, 300, .inl (fun _ => 0))), (q94, .inl (cI, 300, .inl (fun _ => 0)))]) H := hP
  have hD : va_D A ([(m0, .inr (5, [.ref q7, .ref q15, .int 0, .ref q23, .ref q31, .ref q40, .ref q49, .ref q58, .int 0, .ref q67, .ref q76, .ref q85, .null, .int 0, .int 0, .int 0]))] ++ (W_A cI q7 (fun _ => 0)) ++ (W_A cI q15 (fun _ => 0)) ++ (W_A cI q23 (fun _ => 0)) ++ (W_A cI q31 (fun _ => 0)) ++ [(q40, .inl (cI, 302, .inl (fun _ => 0))), (q49, .inl (cI, 302, .inl (fun _ => 0))), (q58, .inl (cI, 302, .inl (fun _ => 0))), (q67, .inl (cI, 300, .inl (fun _ => 0))), (q76, .inl (cI, 300, .inl (fun _ => 0))), (q85, .inl (cI, 300, .inl (fun _ => 0))), (q94, .inl (cI, 300, .inl (fun _ => 0)))]) := hD
  refine va_putF (D := D) (ci := 5) (v := .ref q94) (ty := (.array .int)) (C := RX5) (T := TX5) (N := 16) hx hb hts (by decide +kernel) tyX5 tyX5_ok nmX5 hown hK hP hD hS 0 rfl rfl 12 (by decide) (hts (.fieldLink RX5 40 "AlarmgroveModel" "length" "[I") (by decide +kernel)) (fun _ h9 => h9) rfl hin rfl (by decide +kernel) rfl rfl (Nat.le_of_ble_eq_true rfl) dX5_init_96 (fun H locs hP hD hS => ?_)
  have hP : va_P D vwCl (W_X5 cI m0 q7 q15 q23 q31 q40 q49 q58 q67 q76 q85 q94 0 0 0 0 0 (fun _ => 0) (fun _ => 0) (fun _ => 0) (fun _ => 0) (fun _ => 0) (fun _ => 0) (fun _ => 0) (fun _ => 0) (fun _ => 0) (fun _ => 0) (fun _ => 0)) H := hP
  have hD : va_D A (W_X5 cI m0 q7 q15 q23 q31 q40 q49 q58 q67 q76 q85 q94 0 0 0 0 0 (fun _ => 0) (fun _ => 0) (fun _ => 0) (fun _ => 0) (fun _ => 0) (fun _ => 0) (fun _ => 0) (fun _ => 0) (fun _ => 0) (fun _ => 0) (fun _ => 0)) := hD
  exact W.vret hx hb hr (fun t ht hW => ⟨⟨(((fun _ => 0), (fun _ => 0), (fun _ => 0), (fun _ => 0), (fun _ => 0), (fun _ => 0), (fun _ => 0), (fun _ => 0), (fun _ => 0), (fun _ => 0), (fun _ => 0)), (q7, q15, q23, q31, q40, q49, q58, q67, q76, q85, q94)), rfl, he, by rw [ht]; exact hP, va_K.moved hW.alike hK, hD⟩, hS.F ht⟩) hS.2.2 dX5_init_99
abbrev rm_X5_thrown : Room := { frames := 0, cells := 0, slots := 0, locals := 0 }
abbrev Q_X5_thrown (D : va_G) (cI : ClassId) (m0 m1 m2 m3 m4 m5 m6 m7 m8 m9 m10 m11 : Nat) (mr : Int32) (mc : Int32) (me : Int32) (mw : Int32) (mh : Int32) (mn : AA) (mu : AA) (ms : AA) (mt : AA) (md : AA) (mz : AA) (mi : AA) (mk : AA) (mo : AA) (mj : AA) (ml : AA) (A : Nat → Prop) : Array Value → State → Outcome → State → Prop := va_Qi (S := Unit) (fun r u => f_X5_thrown mh = r) (fun u t => QW D [(cI, .int)] A (W_X5 cI m0 m1 m2 m3 m4 m5 m6 m7 m8 m9 m10 m11 mr mc me mw mh mn mu ms mt md mz mi mk mo mj ml) t) A
set_option maxHeartbeats 4000000 in
set_option maxRecDepth 100000 in
theorem c_X5_thrown (l : Launch)  (D : va_G) (cI : ClassId) (m0 m1 m2 m3 m4 m5 m6 m7 m8 m9 m10 m11 : Nat) (mr : Int32) (mc : Int32) (me : Int32) (mw : Int32) (mh : Int32) (mn : AA) (mu : AA) (ms : AA) (mt : AA) (md : AA) (mz : AA) (mi : AA) (mk : AA) (mo : AA) (mj : AA) (ml : AA) (sz : Nat) : Met l yX5_thrown wsX5_thrown rm_X5_thrown (va_Pc [.ref m0] (PW D [(cI, .int)] sz (W_X5 cI m0 m1 m2 m3 m4 m5 m6 m7 m8 m9 m10 m11 mr mc me mw mh mn mu ms mt md mz mi mk mo mj ml))) (Q_X5_thrown D cI m0 m1 m2 m3 m4 m5 m6 m7 m8 m9 m10 m11 mr mc me mw mh mn mu ms mt md mz mi mk mo mj ml (va_A (W_X5 cI m0 m1 m2 m3 m4 m5 m6 m7 m8 m9 m10 m11 mr mc me mw mh mn mu ms mt md mz mi mk mo mj ml) sz)) 0 0 (va_A (W_X5 cI m0 m1 m2 m3 m4 m5 m6 m7 m8 m9 m10 m11 mr mc me mw mh mn mu ms mt md mz mi mk mo mj ml) sz) := by
  refine Met.ofW (cc := cX5_thrown) (maxL := 1) (ret := (some .int)) (by decide) rfl ?_
  intro p e s m args below meth c s₁ B hml hv
  obtain ⟨rfl, hsz, hP, hK, hD0, hN⟩ := hv
  have hx := B.exec
  have hb := B.bytes
  have hr := B.returns
  have hts := atoms_spec (ws := wsX5_thrown) B.pre
  have hown : s.vm.findClass RX5 = some m.cls := findClass_of_methodNamed B.named
  have hlocks := B.notSynchronized
  subst hsz
  have hD := hD0.self (sz := s.heap.size)
  generalize hAe : va_A (W_X5 cI m0 m1 m2 m3 m4 m5 m6 m7 m8 m9 m10 m11 mr mc me mw mh mn mu ms mt md mz mi mk mo mj ml) s.heap.size = A at hD ⊢
  have hA : ∀ q : Nat, s.heap.size ≤ q → A q := fun q h => by rw [← hAe]; exact Or.inr h
  have hS : va_S A s.heap s.heap [] := va_S.rf
  have hl := lv_entry ([.ref m0]) (n := 1) (Nat.le_of_ble_eq_true rfl)
  rw [lg_entry_eq]
  generalize (lg_sl ([.ref m0]) ++ List.replicate (1 - (lg_sl ([.ref m0])).length) Slot.unset).toArray = ls at hl ⊢
  have hl : lv_has ls 1 [(0, .ref m0)] := hl
  have he := f_X5_thrown.eq_1 mh
  refine lv_aload_n hx hb dX5_thrown_0 rfl (lv_at hl 0 rfl) ?_
  refine va_get (D := D) (ci := 5) (v := .int mh) (C := RX5) (T := TX5) (N := 16) hx hb hts (by decide +kernel) hown hK hP 0 rfl rfl 15 (by decide) (hts (.fieldLink RX5 43 "AlarmgroveModel" "thrown" "I") (by decide +kernel)) (fun _ h9 => h9) rfl dX5_thrown_1 ?_
  exact W.iret (v := mh) hx hb hr (fun t ht hW => ⟨⟨mh, (), rfl, he, by rw [ht]; exact hP, va_K.moved hW.alike hK, hD⟩, hS.F ht⟩) hS.2.2 dX5_thrown_4
abbrev rm_X5_goes : Room := { frames := 0, cells := 0, slots := 0, locals := 0 }
abbrev Q_X5_goes (D : va_G) (cI : ClassId) (m0 m1 m2 m3 m4 m5 m6 m7 m8 m9 m10 m11 : Nat) (mr : Int32) (mc : Int32) (me : Int32) (mw : Int32) (mh : Int32) (mn : AA) (mu : AA) (ms : AA) (mt : AA) (md : AA) (mz : AA) (mi : AA) (mk : AA) (mo : AA) (mj : AA) (ml : AA) (a1 a2 : Int32) (A : Nat → Prop) : Array Value → State → Outcome → State → Prop := va_Qi (S := Int32) (fun r u => f_X5_goes a1 a2 = (r, u) ∧ (r = 0 ∨ r = 1)) (fun u t => QW D [(cI, .int)] A (W_X5 cI m0 m1 m2 m3 m4 m5 m6 m7 m8 m9 m10 m11 mr mc me mw u mn mu ms mt md mz mi mk mo mj ml) t) A
set_option maxHeartbeats 4000000 in
set_option maxRecDepth 100000 in
theorem c_X5_goes (l : Launch)  (D : va_G) (cI : ClassId) (m0 m1 m2 m3 m4 m5 m6 m7 m8 m9 m10 m11 : Nat) (mr : Int32) (mc : Int32) (me : Int32) (mw : Int32) (mh : Int32) (mn : AA) (mu : AA) (ms : AA) (mt : AA) (md : AA) (mz : AA) (mi : AA) (mk : AA) (mo : AA) (mj : AA) (ml : AA) (sz : Nat) (a1 a2 : Int32) : Met l yX5_goes wsX5_goes rm_X5_goes (va_Pc [.ref m0, .int a1, .int a2] (PW D [(cI, .int)] sz (W_X5 cI m0 m1 m2 m3 m4 m5 m6 m7 m8 m9 m10 m11 mr mc me mw mh mn mu ms mt md mz mi mk mo mj ml))) (Q_X5_goes D cI m0 m1 m2 m3 m4 m5 m6 m7 m8 m9 m10 m11 mr mc me mw mh mn mu ms mt md mz mi mk mo mj ml a1 a2 (va_A (W_X5 cI m0 m1 m2 m3 m4 m5 m6 m7 m8 m9 m10 m11 mr mc me mw mh mn mu ms mt md mz mi mk mo mj ml) sz)) 0 0 (va_A (W_X5 cI m0 m1 m2 m3 m4 m5 m6 m7 m8 m9 m10 m11 mr mc me mw mh mn mu ms mt md mz mi mk mo mj ml) sz) := by
  refine Met.ofW (cc := cX5_goes) (maxL := 3) (ret := (some .boolean)) (by decide) rfl ?_
  intro p e s m args below meth c s₁ B hml hv
  obtain ⟨rfl, hsz, hP, hK, hD0, hN⟩ := hv
  have hx := B.exec
  have hb := B.bytes
  have hr := B.returns
  have hts := atoms_spec (ws := wsX5_goes) B.pre
  have hown : s.vm.findClass RX5 = some m.cls := findClass_of_methodNamed B.named
  have hlocks := B.notSynchronized
  subst hsz
  have hD := hD0.self (sz := s.heap.size)
  generalize hAe : va_A (W_X5 cI m0 m1 m2 m3 m4 m5 m6 m7 m8 m9 m10 m11 mr mc me mw mh mn mu ms mt md mz mi mk mo mj ml) s.heap.size = A at hD ⊢
  have hA : ∀ q : Nat, s.heap.size ≤ q → A q := fun q h => by rw [← hAe]; exact Or.inr h
  have hS : va_S A s.heap s.heap [] := va_S.rf
  have hl := lv_entry ([.ref m0, .int a1, .int a2]) (n := 3) (Nat.le_of_ble_eq_true rfl)
  rw [lg_entry_eq]
  generalize (lg_sl ([.ref m0, .int a1, .int a2]) ++ List.replicate (3 - (lg_sl ([.ref m0, .int a1, .int a2])).length) Slot.unset).toArray = ls at hl ⊢
  have hl : lv_has ls 3 [(0, .ref m0), (1, .int a1), (2, .int a2)] := hl
  have he := f_X5_goes.eq_1 a1 a2
  refine lv_aload_n hx hb dX5_goes_0 rfl (lv_at hl 0 rfl) ?_
  refine lv_iload_n hx hb dX5_goes_1 rfl (lv_at hl 1 rfl) ?_
  obtain ⟨j1, hJ1⟩ : ∃ z : Int32, z = (if a1 = 0 then (1 : Int32) else (if a2 = 0 then (2 : Int32) else (0 : Int32))) := ⟨_, rfl⟩
  rw [← hJ1] at he
  try dsimp only at he
  have kont1 : ∀ (H : Heap) (locs : List Loc), va_P D vwCl (W_X5 cI m0 m1 m2 m3 m4 m5 m6 m7 m8 m9 m10 m11 mr mc me mw mh mn mu ms mt md mz mi mk mo mj ml) H → va_D A (W_X5 cI m0 m1 m2 m3 m4 m5 m6 m7 m8 m9 m10 m11 mr mc me mw mh mn mu ms mt md mz mi mk mo mj ml) → va_S A s.heap H locs → ∀ ls : Array Slot, lv_has ls 3 [(0, .ref m0)] → W p l e (headSpec wsX5_goes rm_X5_goes).room s m ([.ref m0, .int a1, .int a2] : List Value).toArray below meth c H locs 0 0 (MQ below (Q_X5_goes D cI m0 m1 m2 m3 m4 m5 m6 m7 m8 m9 m10 m11 mr mc me mw mh mn mu ms mt md mz mi mk mo mj ml a1 a2 A) ([.ref m0, .int a1, .int a2] : List Value).toArray s 0 0 A) (F0 m 18 ls [.int j1, .ref m0]) := by
    intro H locs hP hD hS ls hl
    refine va_put (D := D) (ci := 5) (v := .int j1) (ty := .int) (C := RX5) (T := TX5) (N := 16) hx hb hts (by decide +kernel) tyX5 tyX5_ok nmX5 hown hK hP hD hS 0 rfl rfl 15 (by decide) (hts (.fieldLink RX5 43 "AlarmgroveModel" "thrown" "I") (by decide +kernel)) (fun _ h9 => h9) rfl (by decide +kernel) rfl rfl (Nat.le_of_ble_eq_true rfl) dX5_goes_18 (fun H locs hP hD hS => ?_)
    have hP : va_P D vwCl (W_X5 cI m0 m1 m2 m3 m4 m5 m6 m7 m8 m9 m10 m11 mr mc me mw j1 mn mu ms mt md mz mi mk mo mj ml) H := hP
    have hD : va_D A (W_X5 cI m0 m1 m2 m3 m4 m5 m6 m7 m8 m9 m10 m11 mr mc me mw j1 mn mu ms mt md mz mi mk mo mj ml) := hD
    refine lv_aload_n hx hb dX5_goes_21 rfl (lv_at hl 0 rfl) ?_
    refine va_get (D := D) (ci := 5) (v := .int j1) (C := RX5) (T := TX5) (N := 16) hx hb hts (by decide +kernel) hown hK hP 0 rfl rfl 15 (by decide) (hts (.fieldLink RX5 43 "AlarmgroveModel" "thrown" "I") (by decide +kernel)) (fun _ h9 => h9) rfl dX5_goes_22 ?_
    obtain ⟨j4, hJ4⟩ : ∃ z : Int32, z = (if j1 = 0 then (1 : Int32) else (0 : Int32)) := ⟨_, rfl⟩
    rw [← hJ4] at he
    try dsimp only at he
    have kont4 : (j4 = 0 ∨ j4 = 1) → ∀ (H : Heap) (locs : List Loc), va_P D vwCl (W_X5 cI m0 m1 m2 m3 m4 m5 m6 m7 m8 m9 m10 m11 mr mc me mw j1 mn mu ms mt md mz mi mk mo mj ml) H → va_D A (W_X5 cI m0 m1 m2 m3 m4 m5 m6 m7 m8 m9 m10 m11 mr mc me mw j1 mn mu ms mt md mz mi mk mo mj ml) → va_S A s.heap H locs → ∀ ls : Array Slot, lv_has ls 3 [] → W p l e (headSpec wsX5_goes rm_X5_goes).room s m ([.ref m0, .int a1, .int a2] : List Value).toArray below meth c H locs 0 0 (MQ below (Q_X5_goes D cI m0 m1 m2 m3 m4 m5 m6 m7 m8 m9 m10 m11 mr mc me mw mh mn mu ms mt md mz mi mk mo mj ml a1 a2 A) ([.ref m0, .int a1, .int a2] : List Value).toArray s 0 0 A) (F0 m 33 ls [.int j4]) := by
      intro hb4 H locs hP hD hS ls hl
      exact W.zret (ty := .boolean) (v := j4) hx hb hr (by rcases hb4 with h9 | h9 <;> rw [h9] <;> rfl) (fun t ht hW => ⟨⟨j4, j1, rfl, ⟨he, hb4⟩, by rw [ht]; exact hP, va_K.moved hW.alike hK, hD⟩, hS.F ht⟩) hS.2.2 dX5_goes_33
    replace he := hJ4
    refine lv_if_ne (tgt := 32) hx hb dX5_goes_25 (by decide) (fun c5 => ?_) (fun c5 => ?_)
    · replace he := he.trans (if_neg c5)
      refine lv_iconst (v := 0) hx hb dX5_goes_32 (by decide) ?_
      subst he
      exact kont4 (Or.inl rfl) _ _ hP hD hS _ (lv_sub hl [] rfl)
    · replace he := he.trans (if_pos c5)
      refine lv_iconst (v := 1) hx hb dX5_goes_28 (by decide) ?_
      refine lv_goto (tgt := 33) hx hb dX5_goes_29 (by decide) ?_
      subst he
      exact kont4 (Or.inr rfl) _ _ hP hD hS _ (lv_sub hl [] rfl)
  replace he := hJ1
  refine lv_if_ne (tgt := 9) hx hb dX5_goes_2 (by decide) (fun c2 => ?_) (fun c2 => ?_)
  · replace he := he.trans (if_neg c2)
    refine lv_iload_n hx hb dX5_goes_9 rfl (lv_at hl 2 rfl) ?_
    refine lv_if_ne (tgt := 17) hx hb dX5_goes_10 (by decide) (fun c3 => ?_) (fun c3 => ?_)
    · replace he := he.trans (if_neg c3)
      refine lv_iconst (v := 0) hx hb dX5_goes_17 (by decide) ?_
      subst he
      exact kont1 _ _ hP hD hS _ (lv_sub hl [0] rfl)
    · replace he := he.trans (if_pos c3)
      refine lv_iconst (v := 2) hx hb dX5_goes_13 (by decide) ?_
      refine lv_goto (tgt := 18) hx hb dX5_goes_14 (by decide) ?_
      subst he
      exact kont1 _ _ hP hD hS _ (lv_sub hl [0] rfl)
  · replace he := he.trans (if_pos c2)
    refine lv_iconst (v := 1) hx hb dX5_goes_5 (by decide) ?_
    refine lv_goto (tgt := 18) hx hb dX5_goes_6 (by decide) ?_
    subst he
    exact kont1 _ _ hP hD hS _ (lv_sub hl [0] rfl)
abbrev rm_X5_isNode : Room := { frames := 0, cells := 0, slots := 0, locals := 0 }
abbrev Q_X5_isNode (D : va_G) (cI : ClassId) (a0 : Int32) (A : Nat → Prop) : Array Value → State → Outcome → State → Prop := va_Qi (S := Unit) (fun r u => f_X5_isNode a0 = r ∧ (r = 0 ∨ r = 1)) (fun u t => QW D [(cI, .int)] A ([] : va_W) t) A
set_option maxHeartbeats 4000000 in
set_option maxRecDepth 100000 in
theorem c_X5_isNode (l : Launch)  (D : va_G) (cI : ClassId) (sz : Nat) (a0 : Int32) : Met l yX5_isNode wsX5_isNode rm_X5_isNode (va_Pc [.int a0] (PW D [(cI, .int)] sz ([] : va_W))) (Q_X5_isNode D cI a0 (va_A ([] : va_W) sz)) 0 0 (va_A ([] : va_W) sz) := by
  refine Met.ofW (cc := cX5_isNode) (maxL := 1) (ret := (some .boolean)) (by decide) rfl ?_
  intro p e s m args below meth c s₁ B hml hv
  obtain ⟨rfl, hsz, hP, hK, hD0, hN⟩ := hv
  have hx := B.exec
  have hb := B.bytes
  have hr := B.returns
  have hts := atoms_spec (ws := wsX5_isNode) B.pre
  have hown : s.vm.findClass RX5 = some m.cls := findClass_of_methodNamed B.named
  have hlocks := B.notSynchronized
  subst hsz
  have hD := hD0.self (sz := s.heap.size)
  generalize hAe : va_A ([] : va_W) s.heap.size = A at hD ⊢
  have hA : ∀ q : Nat, s.heap.size ≤ q → A q := fun q h => by rw [← hAe]; exact Or.inr h
  have hS : va_S A s.heap s.heap [] := va_S.rf
  have hl := lv_entry ([.int a0]) (n := 1) (Nat.le_of_ble_eq_true rfl)
  rw [lg_entry_eq]
  generalize (lg_sl ([.int a0]) ++ List.replicate (1 - (lg_sl ([.int a0])).length) Slot.unset).toArray = ls at hl ⊢
  have hl : lv_has ls 1 [(0, .int a0)] := hl
  have he := f_X5_isNode.eq_1 a0
  refine lv_iload_n hx hb dX5_isNode_0 rfl (lv_at hl 0 rfl) ?_
  obtain ⟨j1, hJ1⟩ : ∃ z : Int32, z = (if a0 < 0 then (0 : Int32) else (if 14 ≤ a0 then (0 : Int32) else (1 : Int32))) := ⟨_, rfl⟩
  rw [← hJ1] at he
  try dsimp only at he
  have kont1 : (j1 = 0 ∨ j1 = 1) → ∀ (H : Heap) (locs : List Loc), va_P D vwCl ([] : va_W) H → va_D A ([] : va_W) → va_S A s.heap H locs → ∀ ls : Array Slot, lv_has ls 1 [] → W p l e (headSpec wsX5_isNode rm_X5_isNode).room s m ([.int a0] : List Value).toArray below meth c H locs 0 0 (MQ below (Q_X5_isNode D cI a0 A) ([.int a0] : List Value).toArray s 0 0 A) (F0 m 15 ls [.int j1]) := by
    intro hb1 H locs hP hD hS ls hl
    exact W.zret (ty := .boolean) (v := j1) hx hb hr (by rcases hb1 with h9 | h9 <;> rw [h9] <;> rfl) (fun t ht hW => ⟨⟨j1, (), rfl, ⟨he, hb1⟩, by rw [ht]; exact hP, va_K.moved hW.alike hK, hD⟩, hS.F ht⟩) hS.2.2 dX5_isNode_15
  replace he := hJ1
  refine lv_if_lt (tgt := 14) hx hb dX5_isNode_1 (by decide) (fun c2 => ?_) (fun c2 => ?_)
  · replace he := he.trans (if_pos c2)
    refine lv_iconst (v := 0) hx hb dX5_isNode_14 (by decide) ?_
    subst he
    exact kont1 (Or.inl rfl) _ _ hP hD hS _ (lv_sub hl [] rfl)
  · replace he := he.trans (if_neg c2)
    refine lv_iload_n hx hb dX5_isNode_4 rfl (lv_at hl 0 rfl) ?_
    refine lv_bipush (v := 14) hx hb dX5_isNode_5 (by decide) ?_
    refine lv_icmp_ge (tgt := 14) hx hb dX5_isNode_7 (by decide) (fun c3 => ?_) (fun c3 => ?_)
    · replace he := he.trans (if_pos c3)
      refine lv_iconst (v := 0) hx hb dX5_isNode_14 (by decide) ?_
      subst he
      exact kont1 (Or.inl rfl) _ _ hP hD hS _ (lv_sub hl [] rfl)
    · replace he := he.trans (if_neg c3)
      refine lv_iconst (v := 1) hx hb dX5_isNode_10 (by decide) ?_
      refine lv_goto (tgt := 15) hx hb dX5_isNode_11 (by decide) ?_
      subst he
      exact kont1 (Or.inr rfl) _ _ hP hD hS _ (lv_sub hl [] rfl)
abbrev rm_X5_has : Room := { frames := 0, cells := 0, slots := 0, locals := 0 }
abbrev Q_X5_has (D : va_G) (cI : ClassId) (a0 a1 : Int32) (A : Nat → Prop) : Array Value → State → Outcome → State → Prop := va_Qi (S := Unit) (fun r u => f_X5_has a0 a1 = r ∧ (r = 0 ∨ r = 1)) (fun u t => QW D [(cI, .int)] A ([] : va_W) t) A
set_option maxHeartbeats 4000000 in
set_option maxRecDepth 100000 in
theorem c_X5_has (l : Launch)  (D : va_G) (cI : ClassId) (sz : Nat) (a0 a1 : Int32) : Met l yX5_has wsX5_has rm_X5_has (va_Pc [.int a0, .int a1] (PW D [(cI, .int)] sz ([] : va_W))) (Q_X5_has D cI a0 a1 (va_A ([] : va_W) sz)) 0 0 (va_A ([] : va_W) sz) := by
  refine Met.ofW (cc := cX5_has) (maxL := 2) (ret := (some .boolean)) (by decide) rfl ?_
  intro p e s m args below meth c s₁ B hml hv
  obtain ⟨rfl, hsz, hP, hK, hD0, hN⟩ := hv
  have hx := B.exec
  have hb := B.bytes
  have hr := B.returns
  have hts := atoms_spec (ws := wsX5_has) B.pre
  have hown : s.vm.findClass RX5 = some m.cls := findClass_of_methodNamed B.named
  have hlocks := B.notSynchronized
  subst hsz
  have hD := hD0.self (sz := s.heap.size)
  generalize hAe : va_A ([] : va_W) s.heap.size = A at hD ⊢
  have hA : ∀ q : Nat, s.heap.size ≤ q → A q := fun q h => by rw [← hAe]; exact Or.inr h
  have hS : va_S A s.heap s.heap [] := va_S.rf
  have hl := lv_entry ([.int a0, .int a1]) (n := 2) (Nat.le_of_ble_eq_true rfl)
  rw [lg_entry_eq]
  generalize (lg_sl ([.int a0, .int a1]) ++ List.replicate (2 - (lg_sl ([.int a0, .int a1])).length) Slot.unset).toArray = ls at hl ⊢
  have hl : lv_has ls 2 [(0, .int a0), (1, .int a1)] := hl
  have he := f_X5_has.eq_1 a0 a1
  refine lv_iload_n hx hb dX5_has_0 rfl (lv_at hl 0 rfl) ?_
  refine lv_iload_n hx hb dX5_has_1 rfl (lv_at hl 1 rfl) ?_
  refine lv_ishr hx hb dX5_has_2 ?_
  refine lv_iconst (v := 1) hx hb dX5_has_3 (by decide) ?_
  refine lv_iand hx hb dX5_has_4 ?_
  refine lv_iconst (v := 1) hx hb dX5_has_5 (by decide) ?_
  obtain ⟨j1, hJ1⟩ : ∃ z : Int32, z = (if ((a0 >>> (a1 &&& 31)) &&& 1) = 1 then (1 : Int32) else (0 : Int32)) := ⟨_, rfl⟩
  rw [← hJ1] at he
  try dsimp only at he
  have kont1 : (j1 = 0 ∨ j1 = 1) → ∀ (H : Heap) (locs : List Loc), va_P D vwCl ([] : va_W) H → va_D A ([] : va_W) → va_S A s.heap H locs → ∀ ls : Array Slot, lv_has ls 2 [] → W p l e (headSpec wsX5_has rm_X5_has).room s m ([.int a0, .int a1] : List Value).toArray below meth c H locs 0 0 (MQ below (Q_X5_has D cI a0 a1 A) ([.int a0, .int a1] : List Value).toArray s 0 0 A) (F0 m 14 ls [.int j1]) := by
    intro hb1 H locs hP hD hS ls hl
    exact W.zret (ty := .boolean) (v := j1) hx hb hr (by rcases hb1 with h9 | h9 <;> rw [h9] <;> rfl) (fun t ht hW => ⟨⟨j1, (), rfl, ⟨he, hb1⟩, by rw [ht]; exact hP, va_K.moved hW.alike hK, hD⟩, hS.F ht⟩) hS.2.2 dX5_has_14
  replace he := hJ1
  refine lv_icmp_ne (tgt := 13) hx hb dX5_has_6 (by decide) (fun c2 => ?_) (fun c2 => ?_)
  · replace he := he.trans (if_neg c2)
    refine lv_iconst (v := 0) hx hb dX5_has_13 (by decide) ?_
    subst he
    exact kont1 (Or.inl rfl) _ _ hP hD hS _ (lv_sub hl [] rfl)
  · replace he := he.trans (if_pos c2)
    refine lv_iconst (v := 1) hx hb dX5_has_9 (by decide) ?_
    refine lv_goto (tgt := 14) hx hb dX5_has_10 (by decide) ?_
    subst he
    exact kont1 (Or.inr rfl) _ _ hP hD hS _ (lv_sub hl [] rfl)
abbrev rm_X5_count : Room := { frames := 0, cells := 0, slots := 0, locals := 0 }
abbrev Q_X5_count (D : va_G) (cI : ClassId) (a0 : Int32) (A : Nat → Prop) : Array Value → State → Outcome → State → Prop := va_Qi (S := Unit) (fun r u => f_X5_count a0 = r) (fun u t => QW D [(cI, .int)] A ([] : va_W) t) A
set_option maxHeartbeats 4000000 in
set_option maxRecDepth 100000 in
theorem c_X5_count (l : Launch)  (D : va_G) (cI : ClassId) (sz : Nat) (a0 : Int32) (hp : p_X5_count a0) : Met l yX5_count wsX5_count rm_X5_count (va_Pc [.int a0] (PW D [(cI, .int)] sz ([] : va_W))) (Q_X5_count D cI a0 (va_A ([] : va_W) sz)) 0 0 (va_A ([] : va_W) sz) := by
  refine Met.ofW (cc := cX5_count) (maxL := 3) (ret := (some .int)) (by decide) rfl ?_
  intro p e s m args below meth c s₁ B hml hv
  obtain ⟨rfl, hsz, hP, hK, hD0, hN⟩ := hv
  have hx := B.exec
  have hb := B.bytes
  have hr := B.returns
  have hts := atoms_spec (ws := wsX5_count) B.pre
  have hown : s.vm.findClass RX5 = some m.cls := findClass_of_methodNamed B.named
  have hlocks := B.notSynchronized
  subst hsz
  have hD := hD0.self (sz := s.heap.size)
  generalize hAe : va_A ([] : va_W) s.heap.size = A at hD ⊢
  have hA : ∀ q : Nat, s.heap.size ≤ q → A q := fun q h => by rw [← hAe]; exact Or.inr h
  have hS : va_S A s.heap s.heap [] := va_S.rf
  have hl := lv_entry ([.int a0]) (n := 3) (Nat.le_of_ble_eq_true rfl)
  rw [lg_entry_eq]
  generalize (lg_sl ([.int a0]) ++ List.replicate (3 - (lg_sl ([.int a0])).length) Slot.unset).toArray = ls at hl ⊢
  have hl : lv_has ls 3 [(0, .int a0)] := hl
  have he := f_X5_count.eq_1 a0
  replace hp := Eq.mp (p_X5_count.eq_1 ..) hp
  refine lv_iconst (v := 0) hx hb dX5_count_0 (by decide) ?_
  refine lv_istore_n (lv' := [(1, .int 0), (0, .int a0)]) hx hb dX5_count_1 rfl hl (by decide) rfl (fun ls hl => ?_)
  refine lv_iconst (v := 0) hx hb dX5_count_2 (by decide) ?_
  refine lv_istore_n (lv' := [(2, .int 0), (1, .int 0), (0, .int a0)]) hx hb dX5_count_3 rfl hl (by decide) rfl (fun ls hl => ?_)
  obtain ⟨⟨r1_v4_1, r1_v4_2⟩, hL1⟩ : ∃ z, z = f_X5_count_L4 a0 15 (0 : Int32) (0 : Int32) := ⟨_, rfl⟩
  rw [← hL1] at he
  try dsimp only at he
  have hpL1 := hp.1
  replace hp := hp.2 _ _ hL1.symm
  have kont1 : ∀ (x1_v4_1 : Int32) (x1_v4_2 : Int32), (r1_v4_1, r1_v4_2) = (x1_v4_1, x1_v4_2) → ∀ (H : Heap) (locs : List Loc), va_P D vwCl ([] : va_W) H → va_D A ([] : va_W) → va_S A s.heap H locs → ∀ ls : Array Slot, lv_has ls 3 [(1, .int x1_v4_1)] → W p l e (headSpec wsX5_count rm_X5_count).room s m ([.int a0] : List Value).toArray below meth c H locs 0 0 (MQ below (Q_X5_count D cI a0 A) ([.int a0] : List Value).toArray s 0 0 A) (F0 m 24 ls []) := by
    intro x1_v4_1 x1_v4_2 hxe H locs hP hD hS ls hl
    simp only [Prod.mk.injEq] at hxe
    obtain ⟨rfl, rfl⟩ := hxe
    refine lv_iload_n hx hb dX5_count_24 rfl (lv_at hl 0 rfl) ?_
    exact W.iret (v := r1_v4_1) hx hb hr (fun t ht hW => ⟨⟨r1_v4_1, (), rfl, he, by rw [ht]; exact hP, va_K.moved hW.alike hK, hD⟩, hS.F ht⟩) hS.2.2 dX5_count_25
  have loop1 : ∀ (n : Nat) (v4_1 : Int32) (v4_2 : Int32), p_X5_count_L4 a0 n v4_1 v4_2 → (r1_v4_1, r1_v4_2) = f_X5_count_L4 a0 n v4_1 v4_2 → ∀ (H : Heap) (locs : List Loc), va_P D vwCl ([] : va_W) H → va_D A ([] : va_W) → va_S A s.heap H locs → ∀ ls : Array Slot, lv_has ls 3 [(2, .int v4_2), (1, .int v4_1), (0, .int a0)] → W p l e (headSpec wsX5_count rm_X5_count).room s m ([.int a0] : List Value).toArray below meth c H locs 0 0 (MQ below (Q_X5_count D cI a0 A) ([.int a0] : List Value).toArray s 0 0 A) (F0 m 4 ls []) := by
    intro n
    induction n with
    | zero => exact fun _ _ hp => hp.elim
    | succ n ih =>
      intro v4_1 v4_2 hp he H locs hP hD hS ls hl
      replace hp := Eq.mp (p_X5_count_L4.eq_2 ..) hp
      replace he := he.trans (f_X5_count_L4.eq_2 ..)
      refine lv_iload_n hx hb dX5_count_4 rfl (lv_at hl 0 rfl) ?_
      refine lv_bipush (v := 14) hx hb dX5_count_5 (by decide) ?_
      refine lv_icmp_ge (tgt := 24) hx hb dX5_count_7 (by decide) (fun c2 => ?_) (fun c2 => ?_)
      · replace hp := hp.1 c2
        replace he := he.trans (if_pos c2)
        exact kont1 _ _ he _ _ hP hD hS _ (lv_sub hl [1] rfl)
      · replace hp := hp.2 c2
        replace he := he.trans (if_neg c2)
        refine lv_iload_n hx hb dX5_count_10 rfl (lv_at hl 1 rfl) ?_
        refine lv_iload_n hx hb dX5_count_11 rfl (lv_at hl 2 rfl) ?_
        refine lv_iload_n hx hb dX5_count_12 rfl (lv_at hl 0 rfl) ?_
        refine lv_ishr hx hb dX5_count_13 ?_
        refine lv_iconst (v := 1) hx hb dX5_count_14 (by decide) ?_
        refine lv_iand hx hb dX5_count_15 ?_
        refine lv_iadd hx hb dX5_count_16 ?_
        refine lv_istore_n (lv' := [(1, .int (v4_1 + ((a0 >>> (v4_2 &&& 31)) &&& 1))), (2, .int v4_2), (0, .int a0)]) hx hb dX5_count_17 rfl hl (by decide) rfl (fun ls hl => ?_)
        refine lv_iinc (v := (v4_2 + 1)) (lv' := [(2, .int (v4_2 + 1)), (1, .int (v4_1 + ((a0 >>> (v4_2 &&& 31)) &&& 1))), (0, .int a0)]) hx hb dX5_count_18 hl (k := 1) rfl rfl (by decide) rfl (fun ls hl => ?_)
        refine lv_goto (tgt := 4) hx hb dX5_count_21 (by decide) ?_
        exact ih _ _ hp he _ _ hP hD hS _ (lv_sub hl [0, 1, 2] rfl)
  exact loop1 15 (0 : Int32) (0 : Int32) hpL1 hL1 _ _ hP hD hS _ (lv_sub hl [0, 1, 2] rfl)
abbrev rm_X5_at : Room := { frames := 1, cells := 0, slots := 0, locals := 21 }
abbrev Q_X5_at (D : va_G) (cI : ClassId) (a0 a1 : Int32) (A : Nat → Prop) : Array Value → State → Outcome → State → Prop := va_Qi (S := Unit) (fun r u => f_X5_at a0 a1 = r) (fun u t => QW D [(cI, .int)] A ([] : va_W) t) A
set_option maxHeartbeats 4000000 in
set_option maxRecDepth 100000 in
theorem c_X5_at (l : Launch)  (D : va_G) (cI : ClassId) (sz : Nat) (a0 a1 : Int32) (hp : p_X5_at a0 a1) : Met l yX5_at wsX5_at rm_X5_at (va_Pc [.int a0, .int a1] (PW D [(cI, .int)] sz ([] : va_W))) (Q_X5_at D cI a0 a1 (va_A ([] : va_W) sz)) 0 0 (va_A ([] : va_W) sz) := by
  refine Met.ofW (cc := cX5_at) (maxL := 5) (ret := (some .int)) (by decide) rfl ?_
  intro p e s m args below meth c s₁ B hml hv
  obtain ⟨rfl, hsz, hP, hK, hD0, hN⟩ := hv
  have hx := B.exec
  have hb := B.bytes
  have hr := B.returns
  have hts := atoms_spec (ws := wsX5_at) B.pre
  have hown : s.vm.findClass RX5 = some m.cls := findClass_of_methodNamed B.named
  have hlocks := B.notSynchronized
  subst hsz
  have hD := hD0.self (sz := s.heap.size)
  generalize hAe : va_A ([] : va_W) s.heap.size = A at hD ⊢
  have hA : ∀ q : Nat, s.heap.size ≤ q → A q := fun q h => by rw [← hAe]; exact Or.inr h
  have hS : va_S A s.heap s.heap [] := va_S.rf
  have hl := lv_entry ([.int a0, .int a1]) (n := 5) (Nat.le_of_ble_eq_true rfl)
  rw [lg_entry_eq]
  generalize (lg_sl ([.int a0, .int a1]) ++ List.replicate (5 - (lg_sl ([.int a0, .int a1])).length) Slot.unset).toArray = ls at hl ⊢
  have hl : lv_has ls 5 [(0, .int a0), (1, .int a1)] := hl
  have he := f_X5_at.eq_1 a0 a1
  replace hp := Eq.mp (p_X5_at.eq_1 ..) hp
  refine lv_iload_n hx hb dX5_at_0 rfl (lv_at hl 1 rfl) ?_
  refine lv_istore_n (lv' := [(2, .int a1), (0, .int a0), (1, .int a1)]) hx hb dX5_at_1 rfl hl (by decide) rfl (fun ls hl => ?_)
  refine lv_iconst (v := (-1)) hx hb dX5_at_2 (by decide) ?_
  refine lv_istore_n (lv' := [(3, .int (-1)), (2, .int a1), (0, .int a0), (1, .int a1)]) hx hb dX5_at_3 rfl hl (by decide) rfl (fun ls hl => ?_)
  refine lv_iconst (v := 0) hx hb dX5_at_4 (by decide) ?_
  refine lv_istore (lv' := [(4, .int 0), (3, .int (-1)), (2, .int a1), (0, .int a0), (1, .int a1)]) hx hb dX5_at_5 hl (by decide) rfl (fun ls hl => ?_)
  obtain ⟨⟨r1_v7_2, r1_v7_3, r1_v7_4⟩, hL1⟩ : ∃ z, z = f_X5_at_L7 a0 15 a1 ((-1) : Int32) (0 : Int32) := ⟨_, rfl⟩
  rw [← hL1] at he
  try dsimp only at he
  have hpL1 := hp.1
  replace hp := hp.2 _ _ _ hL1.symm
  have kont1 : ∀ (x1_v7_2 : Int32) (x1_v7_3 : Int32) (x1_v7_4 : Int32), (r1_v7_2, r1_v7_3, r1_v7_4) = (x1_v7_2, x1_v7_3, x1_v7_4) → ∀ (H : Heap) (locs : List Loc), va_P D vwCl ([] : va_W) H → va_D A ([] : va_W) → va_S A s.heap H locs → ∀ ls : Array Slot, lv_has ls 5 [(3, .int x1_v7_3)] → W p l e (headSpec wsX5_at rm_X5_at).room s m ([.int a0, .int a1] : List Value).toArray below meth c H locs 0 0 (MQ below (Q_X5_at D cI a0 a1 A) ([.int a0, .int a1] : List Value).toArray s 0 0 A) (F0 m 57 ls []) := by
    intro x1_v7_2 x1_v7_3 x1_v7_4 hxe H locs hP hD hS ls hl
    simp only [Prod.mk.injEq] at hxe
    obtain ⟨rfl, rfl, rfl⟩ := hxe
    refine lv_iload_n hx hb dX5_at_57 rfl (lv_at hl 0 rfl) ?_
    exact W.iret (v := r1_v7_3) hx hb hr (fun t ht hW => ⟨⟨r1_v7_3, (), rfl, he, by rw [ht]; exact hP, va_K.moved hW.alike hK, hD⟩, hS.F ht⟩) hS.2.2 dX5_at_58
  have loop1 : ∀ (n : Nat) (v7_2 : Int32) (v7_3 : Int32) (v7_4 : Int32), p_X5_at_L7 a0 n v7_2 v7_3 v7_4 → (r1_v7_2, r1_v7_3, r1_v7_4) = f_X5_at_L7 a0 n v7_2 v7_3 v7_4 → ∀ (H : Heap) (locs : List Loc), va_P D vwCl ([] : va_W) H → va_D A ([] : va_W) → va_S A s.heap H locs → ∀ ls : Array Slot, lv_has ls 5 [(4, .int v7_4), (3, .int v7_3), (2, .int v7_2), (0, .int a0)] → W p l e (headSpec wsX5_at rm_X5_at).room s m ([.int a0, .int a1] : List Value).toArray below meth c H locs 0 0 (MQ below (Q_X5_at D cI a0 a1 A) ([.int a0, .int a1] : List Value).toArray s 0 0 A) (F0 m 7 ls []) := by
    intro n
    induction n with
    | zero => exact fun _ _ _ hp => hp.elim
    | succ n ih =>
      intro v7_2 v7_3 v7_4 hp he H locs hP hD hS ls hl
      replace hp := Eq.mp (p_X5_at_L7.eq_2 ..) hp
      replace he := he.trans (f_X5_at_L7.eq_2 ..)
      refine lv_iload hx hb dX5_at_7 (lv_at hl 0 rfl) ?_
      refine lv_bipush (v := 14) hx hb dX5_at_9 (by decide) ?_
      refine lv_icmp_ge (tgt := 57) hx hb dX5_at_11 (by decide) (fun c2 => ?_) (fun c2 => ?_)
      · replace hp := hp.1 c2
        replace he := he.trans (if_pos c2)
        exact kont1 _ _ _ he _ _ hP hD hS _ (lv_sub hl [1] rfl)
      · replace hp := hp.2 c2
        replace he := he.trans (if_neg c2)
        refine lv_iload_n hx hb dX5_at_14 rfl (lv_at hl 3 rfl) ?_
        refine lv_iload hx hb dX5_at_15 (lv_at hl 0 rfl) ?_
        refine k_calli (S := Unit) (wc := ([] : va_W)) (wr := ([] : va_W)) (w1 := fun u => ([] : va_W)) (fun u => ([] : va_W)) hP hK hD hN hS hA [] [] rfl rfl (by decide) (by decide) (by decide) [] (by decide) (fun _ => rfl) (fun hg => va_runS (As := [.int a0, .int v7_4]) (rest := []) ⟨hx, hb, hml, hown, hts⟩ (c_X5_has l D cI _ a0 v7_4) (va_cwS 2 hts gX5_at_X5_has rfl rfl rfl (by decide +kernel) ⟨Nat.le_of_ble_eq_true rfl, Nat.le_of_ble_eq_true rfl⟩) ⟨PW.blind, fun U hU hW => ⟨rfl, hg U hU hW⟩⟩ rfl rfl hl.1 rfl (lv_room (Nat.le_of_ble_eq_true rfl)) dX5_at_17 ⟨Nat.le_of_ble_eq_true rfl, Nat.le_of_ble_eq_true rfl⟩) (fun r3 u H locs hw hP hD hS => ?_)
        obtain ⟨hw, hb3⟩ := hw
        subst hw
        obtain ⟨j4, hJ4⟩ : ∃ z : Int32, z = (if (f_X5_has a0 v7_4) = 0 then v7_3 else (if v7_2 = 0 then v7_4 else v7_3)) := ⟨_, rfl⟩
        rw [← hJ4] at he
        try dsimp only at he
        have hpJ4 := hp.1
        replace hp := hp.2 _  hJ4.symm
        have kont4 : ∀ (H : Heap) (locs : List Loc), va_P D vwCl ([] : va_W) H → va_D A ([] : va_W) → va_S A s.heap H locs → ∀ ls : Array Slot, lv_has ls 5 [(4, .int v7_4), (2, .int v7_2), (0, .int a0)] → W p l e (headSpec wsX5_at rm_X5_at).room s m ([.int a0, .int a1] : List Value).toArray below meth c H locs 0 0 (MQ below (Q_X5_at D cI a0 a1 A) ([.int a0, .int a1] : List Value).toArray s 0 0 A) (F0 m 33 ls [.int j4]) := by
          intro H locs hP hD hS ls hl
          refine lv_istore_n (lv' := [(3, .int j4), (4, .int v7_4), (2, .int v7_2), (0, .int a0)]) hx hb dX5_at_33 rfl hl (by decide) rfl (fun ls hl => ?_)
          refine lv_iload_n hx hb dX5_at_34 rfl (lv_at hl 2 rfl) ?_
          refine lv_iload_n hx hb dX5_at_35 rfl (lv_at hl 3 rfl) ?_
          refine lv_iload hx hb dX5_at_36 (lv_at hl 1 rfl) ?_
          refine k_calli (S := Unit) (wc := ([] : va_W)) (wr := ([] : va_W)) (w1 := fun u => ([] : va_W)) (fun u => ([] : va_W)) hP hK hD hN hS hA [] [] rfl rfl (by decide) (by decide) (by decide) [] (by decide) (fun _ => rfl) (fun hg => va_runS (As := [.int a0, .int v7_4]) (rest := [.int v7_2]) ⟨hx, hb, hml, hown, hts⟩ (c_X5_has l D cI _ a0 v7_4) (va_cwS 2 hts gX5_at_X5_has rfl rfl rfl (by decide +kernel) ⟨Nat.le_of_ble_eq_true rfl, Nat.le_of_ble_eq_true rfl⟩) ⟨PW.blind, fun U hU hW => ⟨rfl, hg U hU hW⟩⟩ rfl rfl hl.1 rfl (lv_room (Nat.le_of_ble_eq_true rfl)) dX5_at_38 ⟨Nat.le_of_ble_eq_true rfl, Nat.le_of_ble_eq_true rfl⟩) (fun r7 u H locs hw hP hD hS => ?_)
          obtain ⟨hw, hb7⟩ := hw
          subst hw
          obtain ⟨j8, hJ8⟩ : ∃ z : Int32, z = (if (f_X5_has a0 v7_4) = 0 then (0 : Int32) else (1 : Int32)) := ⟨_, rfl⟩
          rw [← hJ8] at he
          try dsimp only at he
          have hpJ8 := hp.1
          replace hp := hp.2 _  hJ8.symm
          have kont8 : (j8 = 0 ∨ j8 = 1) → ∀ (H : Heap) (locs : List Loc), va_P D vwCl ([] : va_W) H → va_D A ([] : va_W) → va_S A s.heap H locs → ∀ ls : Array Slot, lv_has ls 5 [(3, .int j4), (4, .int v7_4), (0, .int a0)] → W p l e (headSpec wsX5_at rm_X5_at).room s m ([.int a0, .int a1] : List Value).toArray below meth c H locs 0 0 (MQ below (Q_X5_at D cI a0 a1 A) ([.int a0, .int a1] : List Value).toArray s 0 0 A) (F0 m 49 ls [.int j8, .int v7_2]) := by
            intro hb8 H locs hP hD hS ls hl
            refine lv_isub hx hb dX5_at_49 ?_
            refine lv_istore_n (lv' := [(2, .int (v7_2 - j8)), (3, .int j4), (4, .int v7_4), (0, .int a0)]) hx hb dX5_at_50 rfl hl (by decide) rfl (fun ls hl => ?_)
            refine lv_iinc (v := (v7_4 + 1)) (lv' := [(4, .int (v7_4 + 1)), (2, .int (v7_2 - j8)), (3, .int j4), (0, .int a0)]) hx hb dX5_at_51 hl (k := 2) rfl rfl (by decide) rfl (fun ls hl => ?_)
            refine lv_goto (tgt := 7) hx hb dX5_at_54 (by decide) ?_
            exact ih _ _ _ hp he _ _ hP hD hS _ (lv_sub hl [0, 2, 1, 3] rfl)
          replace he := hJ8
          replace hp := hpJ8
          refine lv_if_eq (tgt := 48) hx hb dX5_at_41 (by decide) (fun c9 => ?_) (fun c9 => ?_)
          · replace hp := hp.1 c9
            replace he := he.trans (if_pos c9)
            refine lv_iconst (v := 0) hx hb dX5_at_48 (by decide) ?_
            subst he
            exact kont8 (Or.inl rfl) _ _ hP hD hS _ (lv_sub hl [0, 1, 3] rfl)
          · replace hp := hp.2 c9
            replace he := he.trans (if_neg c9)
            refine lv_iconst (v := 1) hx hb dX5_at_44 (by decide) ?_
            refine lv_goto (tgt := 49) hx hb dX5_at_45 (by decide) ?_
            subst he
            exact kont8 (Or.inr rfl) _ _ hP hD hS _ (lv_sub hl [0, 1, 3] rfl)
        replace he := hJ4
        replace hp := hpJ4
        refine lv_if_eq (tgt := 32) hx hb dX5_at_20 (by decide) (fun c5 => ?_) (fun c5 => ?_)
        · replace hp := hp.1 c5
          replace he := he.trans (if_pos c5)
          refine lv_iload_n hx hb dX5_at_32 rfl (lv_at hl 1 rfl) ?_
          subst he
          exact kont4 _ _ hP hD hS _ (lv_sub hl [0, 2, 3] rfl)
        · replace hp := hp.2 c5
          replace he := he.trans (if_neg c5)
          refine lv_iload_n hx hb dX5_at_23 rfl (lv_at hl 2 rfl) ?_
          refine lv_if_ne (tgt := 32) hx hb dX5_at_24 (by decide) (fun c6 => ?_) (fun c6 => ?_)
          · replace hp := hp.2 c6
            replace he := he.trans (if_neg c6)
            refine lv_iload_n hx hb dX5_at_32 rfl (lv_at hl 1 rfl) ?_
            subst he
            exact kont4 _ _ hP hD hS _ (lv_sub hl [0, 2, 3] rfl)
          · replace hp := hp.1 c6
            replace he := he.trans (if_pos c6)
            refine lv_iload hx hb dX5_at_27 (lv_at hl 0 rfl) ?_
            refine lv_goto (tgt := 33) hx hb dX5_at_29 (by decide) ?_
            subst he
            exact kont4 _ _ hP hD hS _ (lv_sub hl [0, 2, 3] rfl)
  exact loop1 15 a1 ((-1) : Int32) (0 : Int32) hpL1 hL1 _ _ hP hD hS _ (lv_sub hl [0, 1, 2, 3] rfl)
abbrev rm_X5_closes : Room := { frames := 1, cells := 0, slots := 0, locals := 21 }
abbrev Q_X5_closes (D : va_G) (cI : ClassId) (m0 m1 m2 m3 m4 m5 m6 m7 m8 m9 m10 m11 : Nat) (mr : Int32) (mc : Int32) (me : Int32) (mw : Int32) (mh : Int32) (mn : AA) (mu : AA) (ms : AA) (mt : AA) (md : AA) (mz : AA) (mi : AA) (mk : AA) (mo : AA) (mj : AA) (ml : AA) (A : Nat → Prop) : Array Value → State → Outcome → State → Prop := va_Qv (S := AA) (fun u => f_X5_closes mn mu = u) (fun u t => QW D [(cI, .int)] A (W_X5 cI m0 m1 m2 m3 m4 m5 m6 m7 m8 m9 m10 m11 mr mc me mw mh mn u ms mt md mz mi mk mo mj ml) t) A
set_option maxHeartbeats 4000000 in
set_option maxRecDepth 100000 in
theorem c_X5_closes (l : Launch)  (D : va_G) (cI : ClassId) (m0 m1 m2 m3 m4 m5 m6 m7 m8 m9 m10 m11 : Nat) (mr : Int32) (mc : Int32) (me : Int32) (mw : Int32) (mh : Int32) (mn : AA) (mu : AA) (ms : AA) (mt : AA) (md : AA) (mz : AA) (mi : AA) (mk : AA) (mo : AA) (mj : AA) (ml : AA) (sz : Nat) (hp : p_X5_closes mn mu) : Met l yX5_closes wsX5_closes rm_X5_closes (va_Pc [.ref m0] (PW D [(cI, .int)] sz (W_X5 cI m0 m1 m2 m3 m4 m5 m6 m7 m8 m9 m10 m11 mr mc me mw mh mn mu ms mt md mz mi mk mo mj ml))) (Q_X5_closes D cI m0 m1 m2 m3 m4 m5 m6 m7 m8 m9 m10 m11 mr mc me mw mh mn mu ms mt md mz mi mk mo mj ml (va_A (W_X5 cI m0 m1 m2 m3 m4 m5 m6 m7 m8 m9 m10 m11 mr mc me mw mh mn mu ms mt md mz mi mk mo mj ml) sz)) 0 0 (va_A (W_X5 cI m0 m1 m2 m3 m4 m5 m6 m7 m8 m9 m10 m11 mr mc me mw mh mn mu ms mt md mz mi mk mo mj ml) sz) := by
  refine Met.ofW (cc := cX5_closes) (maxL := 4) (ret := none) (by decide) rfl ?_
  intro p e s m args below meth c s₁ B hml hv
  obtain ⟨rfl, hsz, hP, hK, hD0, hN⟩ := hv
  have hx := B.exec
  have hb := B.bytes
  have hr := B.returns
  have hts := atoms_spec (ws := wsX5_closes) B.pre
  have hown : s.vm.findClass RX5 = some m.cls := findClass_of_methodNamed B.named
  have hlocks := B.notSynchronized
  subst hsz
  have hD := hD0.self (sz := s.heap.size)
  generalize hAe : va_A (W_X5 cI m0 m1 m2 m3 m4 m5 m6 m7 m8 m9 m10 m11 mr mc me mw mh mn mu ms mt md mz mi mk mo mj ml) s.heap.size = A at hD ⊢
  have hA : ∀ q : Nat, s.heap.size ≤ q → A q := fun q h => by rw [← hAe]; exact Or.inr h
  have hS : va_S A s.heap s.heap [] := va_S.rf
  have hl := lv_entry ([.ref m0]) (n := 4) (Nat.le_of_ble_eq_true rfl)
  rw [lg_entry_eq]
  generalize (lg_sl ([.ref m0]) ++ List.replicate (4 - (lg_sl ([.ref m0])).length) Slot.unset).toArray = ls at hl ⊢
  have hl : lv_has ls 4 [(0, .ref m0)] := hl
  have he := f_X5_closes.eq_1 mn mu
  replace hp := Eq.mp (p_X5_closes.eq_1 ..) hp
  refine lv_iconst (v := 0) hx hb dX5_closes_0 (by decide) ?_
  refine lv_istore_n (lv' := [(1, .int 0), (0, .ref m0)]) hx hb dX5_closes_1 rfl hl (by decide) rfl (fun ls hl => ?_)
  obtain ⟨⟨r1_v2_1, r1_mu_2⟩, hL1⟩ : ∃ z, z = f_X5_closes_L2 mn 15 (0 : Int32) mu := ⟨_, rfl⟩
  rw [← hL1] at he
  try dsimp only at he
  have hpL1 := hp.1
  replace hp := hp.2 _ _ hL1.symm
  have kont1 : ∀ (x1_v2_1 : Int32) (x1_mu_2 : AA), (r1_v2_1, r1_mu_2) = (x1_v2_1, x1_mu_2) → ∀ (H : Heap) (locs : List Loc), va_P D vwCl (W_X5 cI m0 m1 m2 m3 m4 m5 m6 m7 m8 m9 m10 m11 mr mc me mw mh mn x1_mu_2 ms mt md mz mi mk mo mj ml) H → va_D A (W_X5 cI m0 m1 m2 m3 m4 m5 m6 m7 m8 m9 m10 m11 mr mc me mw mh mn x1_mu_2 ms mt md mz mi mk mo mj ml) → va_S A s.heap H locs → ∀ ls : Array Slot, lv_has ls 4 [(0, .ref m0)] → W p l e (headSpec wsX5_closes rm_X5_closes).room s m ([.ref m0] : List Value).toArray below meth c H locs 0 0 (MQ below (Q_X5_closes D cI m0 m1 m2 m3 m4 m5 m6 m7 m8 m9 m10 m11 mr mc me mw mh mn mu ms mt md mz mi mk mo mj ml A) ([.ref m0] : List Value).toArray s 0 0 A) (F0 m 26 ls []) := by
    intro x1_v2_1 x1_mu_2 hxe H locs hP hD hS ls hl
    simp only [Prod.mk.injEq] at hxe
    obtain ⟨rfl, rfl⟩ := hxe
    refine lv_iconst (v := 0) hx hb dX5_closes_26 (by decide) ?_
    refine lv_istore_n (lv' := [(1, .int 0), (0, .ref m0)]) hx hb dX5_closes_27 rfl hl (by decide) rfl (fun ls hl => ?_)
    obtain ⟨⟨r5_v28_1, r5_mu_28⟩, hL5⟩ : ∃ z, z = f_X5_closes_L28 15 (0 : Int32) r1_mu_2 := ⟨_, rfl⟩
    rw [← hL5] at he
    try dsimp only at he
    have hpL5 := hp.1
    replace hp := hp.2 _ _ hL5.symm
    have kont5 : ∀ (x5_v28_1 : Int32) (x5_mu_28 : AA), (r5_v28_1, r5_mu_28) = (x5_v28_1, x5_mu_28) → ∀ (H : Heap) (locs : List Loc), va_P D vwCl (W_X5 cI m0 m1 m2 m3 m4 m5 m6 m7 m8 m9 m10 m11 mr mc me mw mh mn x5_mu_28 ms mt md mz mi mk mo mj ml) H → va_D A (W_X5 cI m0 m1 m2 m3 m4 m5 m6 m7 m8 m9 m10 m11 mr mc me mw mh mn x5_mu_28 ms mt md mz mi mk mo mj ml) → va_S A s.heap H locs → ∀ ls : Array Slot, lv_has ls 4 [] → W p l e (headSpec wsX5_closes rm_X5_closes).room s m ([.ref m0] : List Value).toArray below meth c H locs 0 0 (MQ below (Q_X5_closes D cI m0 m1 m2 m3 m4 m5 m6 m7 m8 m9 m10 m11 mr mc me mw mh mn mu ms mt md mz mi mk mo mj ml A) ([.ref m0] : List Value).toArray s 0 0 A) (F0 m 100 ls []) := by
      intro x5_v28_1 x5_mu_28 hxe H locs hP hD hS ls hl
      simp only [Prod.mk.injEq] at hxe
      obtain ⟨rfl, rfl⟩ := hxe
      exact W.vret hx hb hr (fun t ht hW => ⟨⟨r5_mu_28, rfl, he, by rw [ht]; exact hP, va_K.moved hW.alike hK, hD⟩, hS.F ht⟩) hS.2.2 dX5_closes_100
    have loop5 : ∀ (n : Nat) (v28_1 : Int32) (mu_28 : AA), p_X5_closes_L28 n v28_1 mu_28 → (r5_v28_1, r5_mu_28) = f_X5_closes_L28 n v28_1 mu_28 → ∀ (H : Heap) (locs : List Loc), va_P D vwCl (W_X5 cI m0 m1 m2 m3 m4 m5 m6 m7 m8 m9 m10 m11 mr mc me mw mh mn mu_28 ms mt md mz mi mk mo mj ml) H → va_D A (W_X5 cI m0 m1 m2 m3 m4 m5 m6 m7 m8 m9 m10 m11 mr mc me mw mh mn mu_28 ms mt md mz mi mk mo mj ml) → va_S A s.heap H locs → ∀ ls : Array Slot, lv_has ls 4 [(1, .int v28_1), (0, .ref m0)] → W p l e (headSpec wsX5_closes rm_X5_closes).room s m ([.ref m0] : List Value).toArray below meth c H locs 0 0 (MQ below (Q_X5_closes D cI m0 m1 m2 m3 m4 m5 m6 m7 m8 m9 m10 m11 mr mc me mw mh mn mu ms mt md mz mi mk mo mj ml A) ([.ref m0] : List Value).toArray s 0 0 A) (F0 m 28 ls []) := by
      intro n
      induction n with
      | zero => exact fun _ _ hp => hp.elim
      | succ n ih =>
        intro v28_1 mu_28 hp he H locs hP hD hS ls hl
        replace hp := Eq.mp (p_X5_closes_L28.eq_2 ..) hp
        replace he := he.trans (f_X5_closes_L28.eq_2 ..)
        refine lv_iload_n hx hb dX5_closes_28 rfl (lv_at hl 0 rfl) ?_
        refine lv_bipush (v := 14) hx hb dX5_closes_29 (by decide) ?_
        refine lv_icmp_ge (tgt := 100) hx hb dX5_closes_31 (by decide) (fun c6 => ?_) (fun c6 => ?_)
        · replace hp := hp.1 c6
          replace he := he.trans (if_pos c6)
          exact kont5 _ _ he _ _ hP hD hS _ (lv_sub hl [] rfl)
        · replace hp := hp.2 c6
          replace he := he.trans (if_neg c6)
          refine lv_iconst (v := 0) hx hb dX5_closes_34 (by decide) ?_
          refine lv_istore_n (lv' := [(2, .int 0), (1, .int v28_1), (0, .ref m0)]) hx hb dX5_closes_35 rfl hl (by decide) rfl (fun ls hl => ?_)
          obtain ⟨⟨r7_v36_2, r7_mu_36⟩, hL7⟩ : ∃ z, z = f_X5_closes_L36 15 (0 : Int32) mu_28 := ⟨_, rfl⟩
          rw [← hL7] at he
          try dsimp only at he
          have hpL7 := hp.1
          replace hp := hp.2 _ _ hL7.symm
          have kont7 : ∀ (x7_v36_2 : Int32) (x7_mu_36 : AA), (r7_v36_2, r7_mu_36) = (x7_v36_2, x7_mu_36) → ∀ (H : Heap) (locs : List Loc), va_P D vwCl (W_X5 cI m0 m1 m2 m3 m4 m5 m6 m7 m8 m9 m10 m11 mr mc me mw mh mn x7_mu_36 ms mt md mz mi mk mo mj ml) H → va_D A (W_X5 cI m0 m1 m2 m3 m4 m5 m6 m7 m8 m9 m10 m11 mr mc me mw mh mn x7_mu_36 ms mt md mz mi mk mo mj ml) → va_S A s.heap H locs → ∀ ls : Array Slot, lv_has ls 4 [(1, .int v28_1), (0, .ref m0)] → W p l e (headSpec wsX5_closes rm_X5_closes).room s m ([.ref m0] : List Value).toArray below meth c H locs 0 0 (MQ below (Q_X5_closes D cI m0 m1 m2 m3 m4 m5 m6 m7 m8 m9 m10 m11 mr mc me mw mh mn mu ms mt md mz mi mk mo mj ml A) ([.ref m0] : List Value).toArray s 0 0 A) (F0 m 94 ls []) := by
            intro x7_v36_2 x7_mu_36 hxe H locs hP hD hS ls hl
            simp only [Prod.mk.injEq] at hxe
            obtain ⟨rfl, rfl⟩ := hxe
            refine lv_iinc (v := (v28_1 + 1)) (lv' := [(1, .int (v28_1 + 1)), (0, .ref m0)]) hx hb dX5_closes_94 hl (k := 0) rfl rfl (by decide) rfl (fun ls hl => ?_)
            refine lv_goto (tgt := 28) hx hb dX5_closes_97 (by decide) ?_
            exact ih _ _ hp he _ _ hP hD hS _ (lv_sub hl [0, 1] rfl)
          have loop7 : ∀ (n : Nat) (v36_2 : Int32) (mu_36 : AA), p_X5_closes_L36 n v36_2 mu_36 → (r7_v36_2, r7_mu_36) = f_X5_closes_L36 n v36_2 mu_36 → ∀ (H : Heap) (locs : List Loc), va_P D vwCl (W_X5 cI m0 m1 m2 m3 m4 m5 m6 m7 m8 m9 m10 m11 mr mc me mw mh mn mu_36 ms mt md mz mi mk mo mj ml) H → va_D A (W_X5 cI m0 m1 m2 m3 m4 m5 m6 m7 m8 m9 m10 m11 mr mc me mw mh mn mu_36 ms mt md mz mi mk mo mj ml) → va_S A s.heap H locs → ∀ ls : Array Slot, lv_has ls 4 [(2, .int v36_2), (1, .int v28_1), (0, .ref m0)] → W p l e (headSpec wsX5_closes rm_X5_closes).room s m ([.ref m0] : List Value).toArray below meth c H locs 0 0 (MQ below (Q_X5_closes D cI m0 m1 m2 m3 m4 m5 m6 m7 m8 m9 m10 m11 mr mc me mw mh mn mu ms mt md mz mi mk mo mj ml A) ([.ref m0] : List Value).toArray s 0 0 A) (F0 m 36 ls []) := by
            intro n
            induction n with
            | zero => exact fun _ _ hp => hp.elim
            | succ n ih =>
              intro v36_2 mu_36 hp he H locs hP hD hS ls hl
              replace hp := Eq.mp (p_X5_closes_L36.eq_2 ..) hp
              replace he := he.trans (f_X5_closes_L36.eq_2 ..)
              refine lv_iload_n hx hb dX5_closes_36 rfl (lv_at hl 0 rfl) ?_
              refine lv_bipush (v := 14) hx hb dX5_closes_37 (by decide) ?_
              refine lv_icmp_ge (tgt := 94) hx hb dX5_closes_39 (by decide) (fun c8 => ?_) (fun c8 => ?_)
              · replace hp := hp.1 c8
                replace he := he.trans (if_pos c8)
                exact kont7 _ _ he _ _ hP hD hS _ (lv_sub hl [1, 2] rfl)
              · replace hp := hp.2 c8
                replace he := he.trans (if_neg c8)
                refine lv_iconst (v := 0) hx hb dX5_closes_42 (by decide) ?_
                refine lv_istore_n (lv' := [(3, .int 0), (2, .int v36_2), (1, .int v28_1), (0, .ref m0)]) hx hb dX5_closes_43 rfl hl (by decide) rfl (fun ls hl => ?_)
                obtain ⟨⟨r9_v44_3, r9_mu_44⟩, hL9⟩ : ∃ z, z = f_X5_closes_L44 v36_2 15 (0 : Int32) mu_36 := ⟨_, rfl⟩
                rw [← hL9] at he
                try dsimp only at he
                have hpL9 := hp.1
                replace hp := hp.2 _ _ hL9.symm
                have kont9 : ∀ (x9_v44_3 : Int32) (x9_mu_44 : AA), (r9_v44_3, r9_mu_44) = (x9_v44_3, x9_mu_44) → ∀ (H : Heap) (locs : List Loc), va_P D vwCl (W_X5 cI m0 m1 m2 m3 m4 m5 m6 m7 m8 m9 m10 m11 mr mc me mw mh mn x9_mu_44 ms mt md mz mi mk mo mj ml) H → va_D A (W_X5 cI m0 m1 m2 m3 m4 m5 m6 m7 m8 m9 m10 m11 mr mc me mw mh mn x9_mu_44 ms mt md mz mi mk mo mj ml) → va_S A s.heap H locs → ∀ ls : Array Slot, lv_has ls 4 [(2, .int v36_2), (1, .int v28_1), (0, .ref m0)] → W p l e (headSpec wsX5_closes rm_X5_closes).room s m ([.ref m0] : List Value).toArray below meth c H locs 0 0 (MQ below (Q_X5_closes D cI m0 m1 m2 m3 m4 m5 m6 m7 m8 m9 m10 m11 mr mc me mw mh mn mu ms mt md mz mi mk mo mj ml A) ([.ref m0] : List Value).toArray s 0 0 A) (F0 m 88 ls []) := by
                  intro x9_v44_3 x9_mu_44 hxe H locs hP hD hS ls hl
                  simp only [Prod.mk.injEq] at hxe
                  obtain ⟨rfl, rfl⟩ := hxe
                  refine lv_iinc (v := (v36_2 + 1)) (lv' := [(2, .int (v36_2 + 1)), (1, .int v28_1), (0, .ref m0)]) hx hb dX5_closes_88 hl (k := 0) rfl rfl (by decide) rfl (fun ls hl => ?_)
                  refine lv_goto (tgt := 36) hx hb dX5_closes_91 (by decide) ?_
                  exact ih _ _ hp he _ _ hP hD hS _ (lv_sub hl [0, 1, 2] rfl)
                have loop9 : ∀ (n : Nat) (v44_3 : Int32) (mu_44 : AA), p_X5_closes_L44 v36_2 n v44_3 mu_44 → (r9_v44_3, r9_mu_44) = f_X5_closes_L44 v36_2 n v44_3 mu_44 → ∀ (H : Heap) (locs : List Loc), va_P D vwCl (W_X5 cI m0 m1 m2 m3 m4 m5 m6 m7 m8 m9 m10 m11 mr mc me mw mh mn mu_44 ms mt md mz mi mk mo mj ml) H → va_D A (W_X5 cI m0 m1 m2 m3 m4 m5 m6 m7 m8 m9 m10 m11 mr mc me mw mh mn mu_44 ms mt md mz mi mk mo mj ml) → va_S A s.heap H locs → ∀ ls : Array Slot, lv_has ls 4 [(3, .int v44_3), (2, .int v36_2), (1, .int v28_1), (0, .ref m0)] → W p l e (headSpec wsX5_closes rm_X5_closes).room s m ([.ref m0] : List Value).toArray below meth c H locs 0 0 (MQ below (Q_X5_closes D cI m0 m1 m2 m3 m4 m5 m6 m7 m8 m9 m10 m11 mr mc me mw mh mn mu ms mt md mz mi mk mo mj ml A) ([.ref m0] : List Value).toArray s 0 0 A) (F0 m 44 ls []) := by
                  intro n
                  induction n with
                  | zero => exact fun _ _ hp => hp.elim
                  | succ n ih =>
                    intro v44_3 mu_44 hp he H locs hP hD hS ls hl
                    replace hp := Eq.mp (p_X5_closes_L44.eq_2 ..) hp
                    replace he := he.trans (f_X5_closes_L44.eq_2 ..)
                    refine lv_iload_n hx hb dX5_closes_44 rfl (lv_at hl 0 rfl) ?_
                    refine lv_bipush (v := 14) hx hb dX5_closes_45 (by decide) ?_
                    refine lv_icmp_ge (tgt := 88) hx hb dX5_closes_47 (by decide) (fun c10 => ?_) (fun c10 => ?_)
                    · replace hp := hp.1 c10
                      replace he := he.trans (if_pos c10)
                      exact kont9 _ _ he _ _ hP hD hS _ (lv_sub hl [1, 2, 3] rfl)
                    · replace hp := hp.2 c10
                      replace he := he.trans (if_neg c10)
                      refine lv_aload_n hx hb dX5_closes_50 rfl (lv_at hl 3 rfl) ?_
                      refine va_get (D := D) (ci := 5) (v := .ref m2) (C := RX5) (T := TX5) (N := 16) hx hb hts (by decide +kernel) hown hK hP 0 rfl rfl 1 (by decide) (hts (.fieldLink RX5 13 "AlarmgroveModel" "under" "[I") (by decide +kernel)) (fun _ h9 => h9) rfl dX5_closes_51 ?_
                      refine lv_iload_n hx hb dX5_closes_54 rfl (lv_at hl 1 rfl) ?_
                      refine lv_dup2_11 hx hb dX5_closes_55 rfl rfl ?_
                      have h11 := hp.1
                      replace hp := hp.2
                      refine va_iald hx hb hK hP 2 0 rfl rfl h11 dX5_closes_56 ?_
                      refine lv_aload_n hx hb dX5_closes_57 rfl (lv_at hl 3 rfl) ?_
                      refine va_get (D := D) (ci := 5) (v := .ref m2) (C := RX5) (T := TX5) (N := 16) hx hb hts (by decide +kernel) hown hK hP 0 rfl rfl 1 (by decide) (hts (.fieldLink RX5 13 "AlarmgroveModel" "under" "[I") (by decide +kernel)) (fun _ h9 => h9) rfl dX5_closes_58 ?_
                      refine lv_iload_n hx hb dX5_closes_61 rfl (lv_at hl 1 rfl) ?_
                      have h12 := hp.1
                      replace hp := hp.2
                      refine va_iald hx hb hK hP 2 0 rfl rfl h12 dX5_closes_62 ?_
                      refine lv_iload_n hx hb dX5_closes_63 rfl (lv_at hl 0 rfl) ?_
                      refine k_calli (S := Unit) (wc := ([] : va_W)) (wr := (W_X5 cI m0 m1 m2 m3 m4 m5 m6 m7 m8 m9 m10 m11 mr mc me mw mh mn mu_44 ms mt md mz mi mk mo mj ml)) (w1 := fun u => ([] : va_W)) (fun u => (W_X5 cI m0 m1 m2 m3 m4 m5 m6 m7 m8 m9 m10 m11 mr mc me mw mh mn mu_44 ms mt md mz mi mk mo mj ml)) hP hK hD hN hS hA [] [0, 1, 2, 3, 4, 5, 6, 7, 8, 9, 10, 11] rfl rfl (by decide) (by decide) (by decide) [0, 1, 2, 3, 4, 5, 6, 7, 8, 9, 10, 11] (by decide) (fun _ => rfl) (fun hg => va_runS (As := [.int (mu_44 (v36_2).toNatClampNeg), .int v44_3]) (rest := [.int (mu_44 (v36_2).toNatClampNeg), .int v36_2, .ref m2]) ⟨hx, hb, hml, hown, hts⟩ (c_X5_has l D cI _ (mu_44 (v36_2).toNatClampNeg) v44_3) (va_cwS 2 hts gX5_closes_X5_has rfl rfl rfl (by decide +kernel) ⟨Nat.le_of_ble_eq_true rfl, Nat.le_of_ble_eq_true rfl⟩) ⟨PW.blind, fun U hU hW => ⟨rfl, hg U hU hW⟩⟩ rfl rfl hl.1 rfl (lv_room (Nat.le_of_ble_eq_true rfl)) dX5_closes_64 ⟨Nat.le_of_ble_eq_true rfl, Nat.le_of_ble_eq_true rfl⟩) (fun r13 u H locs hw hP hD hS => ?_)
                      obtain ⟨hw, hb13⟩ := hw
                      subst hw
                      obtain ⟨j14, hJ14⟩ : ∃ z : Int32, z = (if (f_X5_has (mu_44 (v36_2).toNatClampNeg) v44_3) = 0 then (0 : Int32) else (mu_44 (v44_3).toNatClampNeg)) := ⟨_, rfl⟩
                      rw [← hJ14] at he
                      try dsimp only at he
                      have hpJ14 := hp.1
                      replace hp := hp.2 _  hJ14.symm
                      have kont14 : ∀ (H : Heap) (locs : List Loc), va_P D vwCl (W_X5 cI m0 m1 m2 m3 m4 m5 m6 m7 m8 m9 m10 m11 mr mc me mw mh mn mu_44 ms mt md mz mi mk mo mj ml) H → va_D A (W_X5 cI m0 m1 m2 m3 m4 m5 m6 m7 m8 m9 m10 m11 mr mc me mw mh mn mu_44 ms mt md mz mi mk mo mj ml) → va_S A s.heap H locs → ∀ ls : Array Slot, lv_has ls 4 [(3, .int v44_3), (2, .int v36_2), (1, .int v28_1), (0, .ref m0)] → W p l e (headSpec wsX5_closes rm_X5_closes).room s m ([.ref m0] : List Value).toArray below meth c H locs 0 0 (MQ below (Q_X5_closes D cI m0 m1 m2 m3 m4 m5 m6 m7 m8 m9 m10 m11 mr mc me mw mh mn mu ms mt md mz mi mk mo mj ml A) ([.ref m0] : List Value).toArray s 0 0 A) (F0 m 80 ls [.int j14, .int (mu_44 (v36_2).toNatClampNeg), .int v36_2, .ref m2]) := by
                        intro H locs hP hD hS ls hl
                        refine lv_ior hx hb dX5_closes_80 ?_
                        have h17 := hp.1
                        replace hp := hp.2
                        refine va_iast hx hb hK hP hD hS 2 0 rfl rfl h17 dX5_closes_81 (fun H locs hP hD hS => ?_)
                        have hP : va_P D vwCl (W_X5 cI m0 m1 m2 m3 m4 m5 m6 m7 m8 m9 m10 m11 mr mc me mw mh mn (upd mu_44 (v36_2).toNatClampNeg ((mu_44 (v36_2).toNatClampNeg) ||| j14)) ms mt md mz mi mk mo mj ml) H := hP
                        have hD : va_D A (W_X5 cI m0 m1 m2 m3 m4 m5 m6 m7 m8 m9 m10 m11 mr mc me mw mh mn (upd mu_44 (v36_2).toNatClampNeg ((mu_44 (v36_2).toNatClampNeg) ||| j14)) ms mt md mz mi mk mo mj ml) := hD
                        refine lv_iinc (v := (v44_3 + 1)) (lv' := [(3, .int (v44_3 + 1)), (2, .int v36_2), (1, .int v28_1), (0, .ref m0)]) hx hb dX5_closes_82 hl (k := 0) rfl rfl (by decide) rfl (fun ls hl => ?_)
                        refine lv_goto (tgt := 44) hx hb dX5_closes_85 (by decide) ?_
                        exact ih _ _ hp he _ _ hP hD hS _ (lv_sub hl [0, 1, 2, 3] rfl)
                      replace he := hJ14
                      replace hp := hpJ14
                      refine lv_if_eq (tgt := 79) hx hb dX5_closes_67 (by decide) (fun c15 => ?_) (fun c15 => ?_)
                      · replace hp := hp.1 c15
                        replace he := he.trans (if_pos c15)
                        refine lv_iconst (v := 0) hx hb dX5_closes_79 (by decide) ?_
                        subst he
                        exact kont14 _ _ hP hD hS _ (lv_sub hl [0, 1, 2, 3] rfl)
                      · replace hp := hp.2 c15
                        replace he := he.trans (if_neg c15)
                        refine lv_aload_n hx hb dX5_closes_70 rfl (lv_at hl 3 rfl) ?_
                        refine va_get (D := D) (ci := 5) (v := .ref m2) (C := RX5) (T := TX5) (N := 16) hx hb hts (by decide +kernel) hown hK hP 0 rfl rfl 1 (by decide) (hts (.fieldLink RX5 13 "AlarmgroveModel" "under" "[I") (by decide +kernel)) (fun _ h9 => h9) rfl dX5_closes_71 ?_
                        refine lv_iload_n hx hb dX5_closes_74 rfl (lv_at hl 0 rfl) ?_
                        have h16 := hp.1
                        replace hp := hp.2
                        refine va_iald hx hb hK hP 2 0 rfl rfl h16 dX5_closes_75 ?_
                        refine lv_goto (tgt := 80) hx hb dX5_closes_76 (by decide) ?_
                        subst he
                        exact kont14 _ _ hP hD hS _ (lv_sub hl [0, 1, 2, 3] rfl)
                exact loop9 15 (0 : Int32) mu_36 hpL9 hL9 _ _ hP hD hS _ (lv_sub hl [0, 1, 2, 3] rfl)
          exact loop7 15 (0 : Int32) mu_28 hpL7 hL7 _ _ hP hD hS _ (lv_sub hl [0, 1, 2] rfl)
    exact loop5 15 (0 : Int32) r1_mu_2 hpL5 hL5 _ _ hP hD hS _ (lv_sub hl [0, 1] rfl)
  have loop1 : ∀ (n : Nat) (v2_1 : Int32) (mu_2 : AA), p_X5_closes_L2 mn n v2_1 mu_2 → (r1_v2_1, r1_mu_2) = f_X5_closes_L2 mn n v2_1 mu_2 → ∀ (H : Heap) (locs : List Loc), va_P D vwCl (W_X5 cI m0 m1 m2 m3 m4 m5 m6 m7 m8 m9 m10 m11 mr mc me mw mh mn mu_2 ms mt md mz mi mk mo mj ml) H → va_D A (W_X5 cI m0 m1 m2 m3 m4 m5 m6 m7 m8 m9 m10 m11 mr mc me mw mh mn mu_2 ms mt md mz mi mk mo mj ml) → va_S A s.heap H locs → ∀ ls : Array Slot, lv_has ls 4 [(1, .int v2_1), (0, .ref m0)] → W p l e (headSpec wsX5_closes rm_X5_closes).room s m ([.ref m0] : List Value).toArray below meth c H locs 0 0 (MQ below (Q_X5_closes D cI m0 m1 m2 m3 m4 m5 m6 m7 m8 m9 m10 m11 mr mc me mw mh mn mu ms mt md mz mi mk mo mj ml A) ([.ref m0] : List Value).toArray s 0 0 A) (F0 m 2 ls []) := by
    intro n
    induction n with
    | zero => exact fun _ _ hp => hp.elim
    | succ n ih =>
      intro v2_1 mu_2 hp he H locs hP hD hS ls hl
      replace hp := Eq.mp (p_X5_closes_L2.eq_2 ..) hp
      replace he := he.trans (f_X5_closes_L2.eq_2 ..)
      refine lv_iload_n hx hb dX5_closes_2 rfl (lv_at hl 0 rfl) ?_
      refine lv_bipush (v := 14) hx hb dX5_closes_3 (by decide) ?_
      refine lv_icmp_ge (tgt := 26) hx hb dX5_closes_5 (by decide) (fun c2 => ?_) (fun c2 => ?_)
      · replace hp := hp.1 c2
        replace he := he.trans (if_pos c2)
        exact kont1 _ _ he _ _ hP hD hS _ (lv_sub hl [1] rfl)
      · replace hp := hp.2 c2
        replace he := he.trans (if_neg c2)
        refine lv_aload_n hx hb dX5_closes_8 rfl (lv_at hl 1 rfl) ?_
        refine va_get (D := D) (ci := 5) (v := .ref m2) (C := RX5) (T := TX5) (N := 16) hx hb hts (by decide +kernel) hown hK hP 0 rfl rfl 1 (by decide) (hts (.fieldLink RX5 13 "AlarmgroveModel" "under" "[I") (by decide +kernel)) (fun _ h9 => h9) rfl dX5_closes_9 ?_
        refine lv_iload_n hx hb dX5_closes_12 rfl (lv_at hl 0 rfl) ?_
        refine lv_aload_n hx hb dX5_closes_13 rfl (lv_at hl 1 rfl) ?_
        refine va_get (D := D) (ci := 5) (v := .ref m1) (C := RX5) (T := TX5) (N := 16) hx hb hts (by decide +kernel) hown hK hP 0 rfl rfl 0 (by decide) (hts (.fieldLink RX5 7 "AlarmgroveModel" "needs" "[I") (by decide +kernel)) (fun _ h9 => h9) rfl dX5_closes_14 ?_
        refine lv_iload_n hx hb dX5_closes_17 rfl (lv_at hl 0 rfl) ?_
        have h3 := hp.1
        replace hp := hp.2
        refine va_iald hx hb hK hP 1 0 rfl rfl h3 dX5_closes_18 ?_
        have h4 := hp.1
        replace hp := hp.2
        refine va_iast hx hb hK hP hD hS 2 0 rfl rfl h4 dX5_closes_19 (fun H locs hP hD hS => ?_)
        have hP : va_P D vwCl (W_X5 cI m0 m1 m2 m3 m4 m5 m6 m7 m8 m9 m10 m11 mr mc me mw mh mn (upd mu_2 (v2_1).toNatClampNeg (mn (v2_1).toNatClampNeg)) ms mt md mz mi mk mo mj ml) H := hP
        have hD : va_D A (W_X5 cI m0 m1 m2 m3 m4 m5 m6 m7 m8 m9 m10 m11 mr mc me mw mh mn (upd mu_2 (v2_1).toNatClampNeg (mn (v2_1).toNatClampNeg)) ms mt md mz mi mk mo mj ml) := hD
        refine lv_iinc (v := (v2_1 + 1)) (lv' := [(1, .int (v2_1 + 1)), (0, .ref m0)]) hx hb dX5_closes_20 hl (k := 0) rfl rfl (by decide) rfl (fun ls hl => ?_)
        refine lv_goto (tgt := 2) hx hb dX5_closes_23 (by decide) ?_
        exact ih _ _ hp he _ _ hP hD hS _ (lv_sub hl [0, 1] rfl)
  exact loop1 15 (0 : Int32) mu hpL1 hL1 _ _ hP hD hS _ (lv_sub hl [0, 1] rfl)
abbrev rm_X5_need : Room := { frames := 2, cells := 0, slots := 0, locals := 44 }
abbrev Q_X5_need (D : va_G) (cI : ClassId) (m0 m1 m2 m3 m4 m5 m6 m7 m8 m9 m10 m11 : Nat) (mr : Int32) (mc : Int32) (me : Int32) (mw : Int32) (mh : Int32) (mn : AA) (mu : AA) (ms : AA) (mt : AA) (md : AA) (mz : AA) (mi : AA) (mk : AA) (mo : AA) (mj : AA) (ml : AA) (a1 a2 : Int32) (A : Nat → Prop) : Array Value → State → Outcome → State → Prop := va_Qi (S := Int32 × AA × AA) (fun r u => f_X5_need mn mu a1 a2 = (r, u) ∧ (r = 0 ∨ r = 1)) (fun u t => QW D [(cI, .int)] A (W_X5 cI m0 m1 m2 m3 m4 m5 m6 m7 m8 m9 m10 m11 mr mc me mw u.1 u.2.1 u.2.2 ms mt md mz mi mk mo mj ml) t) A
set_option maxHeartbeats 4000000 in
set_option maxRecDepth 100000 in
theorem c_X5_need (l : Launch)  (D : va_G) (cI : ClassId) (m0 m1 m2 m3 m4 m5 m6 m7 m8 m9 m10 m11 : Nat) (mr : Int32) (mc : Int32) (me : Int32) (mw : Int32) (mh : Int32) (mn : AA) (mu : AA) (ms : AA) (mt : AA) (md : AA) (mz : AA) (mi : AA) (mk : AA) (mo : AA) (mj : AA) (ml : AA) (sz : Nat) (a1 a2 : Int32) (hp : p_X5_need mn mu a1 a2) : Met l yX5_need wsX5_need rm_X5_need (va_Pc [.ref m0, .int a1, .int a2] (PW D [(cI, .int)] sz (W_X5 cI m0 m1 m2 m3 m4 m5 m6 m7 m8 m9 m10 m11 mr mc me mw mh mn mu ms mt md mz mi mk mo mj ml))) (Q_X5_need D cI m0 m1 m2 m3 m4 m5 m6 m7 m8 m9 m10 m11 mr mc me mw mh mn mu ms mt md mz mi mk mo mj ml a1 a2 (va_A (W_X5 cI m0 m1 m2 m3 m4 m5 m6 m7 m8 m9 m10 m11 mr mc me mw mh mn mu ms mt md mz mi mk mo mj ml) sz)) 0 0 (va_A (W_X5 cI m0 m1 m2 m3 m4 m5 m6 m7 m8 m9 m10 m11 mr mc me mw mh mn mu ms mt md mz mi mk mo mj ml) sz) := by
  refine Met.ofW (cc := cX5_need) (maxL := 5) (ret := (some .boolean)) (by decide) rfl ?_
  intro p e s m args below meth c s₁ B hml hv
  obtain ⟨rfl, hsz, hP, hK, hD0, hN⟩ := hv
  have hx := B.exec
  have hb := B.bytes
  have hr := B.returns
  have hts := atoms_spec (ws := wsX5_need) B.pre
  have hown : s.vm.findClass RX5 = some m.cls := findClass_of_methodNamed B.named
  have hlocks := B.notSynchronized
  subst hsz
  have hD := hD0.self (sz := s.heap.size)
  generalize hAe : va_A (W_X5 cI m0 m1 m2 m3 m4 m5 m6 m7 m8 m9 m10 m11 mr mc me mw mh mn mu ms mt md mz mi mk mo mj ml) s.heap.size = A at hD ⊢
  have hA : ∀ q : Nat, s.heap.size ≤ q → A q := fun q h => by rw [← hAe]; exact Or.inr h
  have hS : va_S A s.heap s.heap [] := va_S.rf
  have hl := lv_entry ([.ref m0, .int a1, .int a2]) (n := 5) (Nat.le_of_ble_eq_true rfl)
  rw [lg_entry_eq]
  generalize (lg_sl ([.ref m0, .int a1, .int a2]) ++ List.replicate (5 - (lg_sl ([.ref m0, .int a1, .int a2])).length) Slot.unset).toArray = ls at hl ⊢
  have hl : lv_has ls 5 [(0, .ref m0), (1, .int a1), (2, .int a2)] := hl
  have he := f_X5_need.eq_1 mn mu a1 a2
  replace hp := Eq.mp (p_X5_need.eq_1 ..) hp
  refine lv_iload_n hx hb dX5_need_0 rfl (lv_at hl 1 rfl) ?_
  refine k_calli (S := Unit) (wc := ([] : va_W)) (wr := (W_X5 cI m0 m1 m2 m3 m4 m5 m6 m7 m8 m9 m10 m11 mr mc me mw mh mn mu ms mt md mz mi mk mo mj ml)) (w1 := fun u => ([] : va_W)) (fun u => (W_X5 cI m0 m1 m2 m3 m4 m5 m6 m7 m8 m9 m10 m11 mr mc me mw mh mn mu ms mt md mz mi mk mo mj ml)) hP hK hD hN hS hA [] [0, 1, 2, 3, 4, 5, 6, 7, 8, 9, 10, 11] rfl rfl (by decide) (by decide) (by decide) [0, 1, 2, 3, 4, 5, 6, 7, 8, 9, 10, 11] (by decide) (fun _ => rfl) (fun hg => va_runS (As := [.int a1]) (rest := []) ⟨hx, hb, hml, hown, hts⟩ (c_X5_isNode l D cI _ a1) (va_cwS 1 hts gX5_need_X5_isNode rfl rfl rfl (by decide +kernel) ⟨Nat.le_of_ble_eq_true rfl, Nat.le_of_ble_eq_true rfl⟩) ⟨PW.blind, fun U hU hW => ⟨rfl, hg U hU hW⟩⟩ rfl rfl hl.1 rfl (lv_room (Nat.le_of_ble_eq_true rfl)) dX5_need_1 ⟨Nat.le_of_ble_eq_true rfl, Nat.le_of_ble_eq_true rfl⟩) (fun r1 u H locs hw hP hD hS => ?_)
  obtain ⟨hw, hb1⟩ := hw
  subst hw
  obtain ⟨j2, hJ2⟩ : ∃ z : Int32, z = (if (f_X5_isNode a1) = 0 then (0 : Int32) else (if (f_X5_isNode a2) = 0 then (0 : Int32) else (1 : Int32))) := ⟨_, rfl⟩
  rw [← hJ2] at he
  try dsimp only at he
  have hpJ2 := hp.1
  replace hp := hp.2 _  hJ2.symm
  have kont2 : (j2 = 0 ∨ j2 = 1) → ∀ (H : Heap) (locs : List Loc), va_P D vwCl (W_X5 cI m0 m1 m2 m3 m4 m5 m6 m7 m8 m9 m10 m11 mr mc me mw mh mn mu ms mt md mz mi mk mo mj ml) H → va_D A (W_X5 cI m0 m1 m2 m3 m4 m5 m6 m7 m8 m9 m10 m11 mr mc me mw mh mn mu ms mt md mz mi mk mo mj ml) → va_S A s.heap H locs → ∀ ls : Array Slot, lv_has ls 5 [(0, .ref m0), (1, .int a1), (2, .int a2)] → W p l e (headSpec wsX5_need rm_X5_need).room s m ([.ref m0, .int a1, .int a2] : List Value).toArray below meth c H locs 0 0 (MQ below (Q_X5_need D cI m0 m1 m2 m3 m4 m5 m6 m7 m8 m9 m10 m11 mr mc me mw mh mn mu ms mt md mz mi mk mo mj ml a1 a2 A) ([.ref m0, .int a1, .int a2] : List Value).toArray s 0 0 A) (F0 m 19 ls [.int j2]) := by
    intro hb2 H locs hP hD hS ls hl
    refine lv_istore_n (lv' := [(3, .int j2), (0, .ref m0), (1, .int a1), (2, .int a2)]) hx hb dX5_need_19 rfl hl (by decide) rfl (fun ls hl => ?_)
    refine lv_aload_n hx hb dX5_need_20 rfl (lv_at hl 1 rfl) ?_
    refine lv_iload_n hx hb dX5_need_21 rfl (lv_at hl 0 rfl) ?_
    refine lv_iload_n hx hb dX5_need_22 rfl (lv_at hl 0 rfl) ?_
    obtain ⟨j6, hJ6⟩ : ∃ z : Int32, z = (if j2 = 0 then (0 : Int32) else (if a1 = a2 then (0 : Int32) else (if (f_X5_has (mu (a2).toNatClampNeg) a1) = 0 then (1 : Int32) else (0 : Int32)))) := ⟨_, rfl⟩
    rw [← hJ6] at he
    try dsimp only at he
    have hpJ6 := hp.1
    replace hp := hp.2 _  hJ6.symm
    have kont6 : (j6 = 0 ∨ j6 = 1) → ∀ (H : Heap) (locs : List Loc), va_P D vwCl (W_X5 cI m0 m1 m2 m3 m4 m5 m6 m7 m8 m9 m10 m11 mr mc me mw mh mn mu ms mt md mz mi mk mo mj ml) H → va_D A (W_X5 cI m0 m1 m2 m3 m4 m5 m6 m7 m8 m9 m10 m11 mr mc me mw mh mn mu ms mt md mz mi mk mo mj ml) → va_S A s.heap H locs → ∀ ls : Array Slot, lv_has ls 5 [(0, .ref m0), (1, .int a1), (2, .int a2)] → W p l e (headSpec wsX5_need rm_X5_need).room s m ([.ref m0, .int a1, .int a2] : List Value).toArray below meth c H locs 0 0 (MQ below (Q_X5_need D cI m0 m1 m2 m3 m4 m5 m6 m7 m8 m9 m10 m11 mr mc me mw mh mn mu ms mt md mz mi mk mo mj ml a1 a2 A) ([.ref m0, .int a1, .int a2] : List Value).toArray s 0 0 A) (F0 m 49 ls [.int j6, .int j2, .ref m0]) := by
      intro hb6 H locs hP hD hS ls hl
      refine k_calli (S := Int32) (wc := (W_X5 cI m0 m1 m2 m3 m4 m5 m6 m7 m8 m9 m10 m11 mr mc me mw mh mn mu ms mt md mz mi mk mo mj ml)) (wr := ([] : va_W)) (w1 := fun u => (W_X5 cI m0 m1 m2 m3 m4 m5 m6 m7 m8 m9 m10 m11 mr mc me mw u mn mu ms mt md mz mi mk mo mj ml)) (fun u => (W_X5 cI m0 m1 m2 m3 m4 m5 m6 m7 m8 m9 m10 m11 mr mc me mw u mn mu ms mt md mz mi mk mo mj ml)) hP hK hD hN hS hA [0, 1, 2, 3, 4, 5, 6, 7, 8, 9, 10, 11] [] rfl rfl (by decide) (by decide) (by decide) [0, 1, 2, 3, 4, 5, 6, 7, 8, 9, 10, 11] (by decide) (fun _ => rfl) (fun hg => va_runV (As := [.int j2, .int j6]) (rest := []) ⟨hx, hb, hml, hown, hts⟩ (c_X5_goes l D cI m0 m1 m2 m3 m4 m5 m6 m7 m8 m9 m10 m11 mr mc me mw mh mn mu ms mt md mz mi mk mo mj ml _ j2 j6) (cwV 2 hts gX5_need_X5_goes rfl rfl rfl (by decide +kernel) ⟨Nat.le_of_ble_eq_true rfl, Nat.le_of_ble_eq_true rfl⟩) ⟨PW.blind, va_recv hK hP (ci := 5) (q0 := 0) rfl rfl, fun U hU hW => ⟨rfl, hg U hU hW⟩⟩ rfl rfl hl.1 rfl (lv_room (Nat.le_of_ble_eq_true rfl)) dX5_need_49 ⟨Nat.le_of_ble_eq_true rfl, Nat.le_of_ble_eq_true rfl⟩) (fun r12 u H locs hw hP hD hS => ?_)
      obtain ⟨u12_0, rfl⟩ : ∃ z, z = u := ⟨_, rfl⟩
      obtain ⟨hw, hb12⟩ := hw
      rw [hw] at he
      try dsimp only at he
      replace hp := hp r12 u12_0 hw
      have hP : va_P D vwCl (W_X5 cI m0 m1 m2 m3 m4 m5 m6 m7 m8 m9 m10 m11 mr mc me mw u12_0 mn mu ms mt md mz mi mk mo mj ml) H := hP
      have hD : va_D A (W_X5 cI m0 m1 m2 m3 m4 m5 m6 m7 m8 m9 m10 m11 mr mc me mw u12_0 mn mu ms mt md mz mi mk mo mj ml) := hD
      refine lv_if_ne (tgt := 57) hx hb dX5_need_52 (by decide) (fun c13 => ?_) (fun c13 => ?_)
      · replace hp := hp.2 c13
        replace he := he.trans (if_neg c13)
        refine lv_aload_n hx hb dX5_need_57 rfl (lv_at hl 0 rfl) ?_
        refine va_get (D := D) (ci := 5) (v := .ref m1) (C := RX5) (T := TX5) (N := 16) hx hb hts (by decide +kernel) hown hK hP 0 rfl rfl 0 (by decide) (hts (.fieldLink RX5 7 "AlarmgroveModel" "needs" "[I") (by decide +kernel)) (fun _ h9 => h9) rfl dX5_need_58 ?_
        refine lv_iload_n hx hb dX5_need_61 rfl (lv_at hl 1 rfl) ?_
        have h14 := hp.1
        replace hp := hp.2
        refine va_iald hx hb hK hP 1 0 rfl rfl h14 dX5_need_62 ?_
        refine lv_iload_n hx hb dX5_need_63 rfl (lv_at hl 2 rfl) ?_
        refine k_calli (S := Unit) (wc := ([] : va_W)) (wr := (W_X5 cI m0 m1 m2 m3 m4 m5 m6 m7 m8 m9 m10 m11 mr mc me mw u12_0 mn mu ms mt md mz mi mk mo mj ml)) (w1 := fun u => ([] : va_W)) (fun u => (W_X5 cI m0 m1 m2 m3 m4 m5 m6 m7 m8 m9 m10 m11 mr mc me mw u12_0 mn mu ms mt md mz mi mk mo mj ml)) hP hK hD hN hS hA [] [0, 1, 2, 3, 4, 5, 6, 7, 8, 9, 10, 11] rfl rfl (by decide) (by decide) (by decide) [0, 1, 2, 3, 4, 5, 6, 7, 8, 9, 10, 11] (by decide) (fun _ => rfl) (fun hg => va_runS (As := [.int (mn (a1).toNatClampNeg), .int a2]) (rest := []) ⟨hx, hb, hml, hown, hts⟩ (c_X5_has l D cI _ (mn (a1).toNatClampNeg) a2) (va_cwS 2 hts gX5_need_X5_has rfl rfl rfl (by decide +kernel) ⟨Nat.le_of_ble_eq_true rfl, Nat.le_of_ble_eq_true rfl⟩) ⟨PW.blind, fun U hU hW => ⟨rfl, hg U hU hW⟩⟩ rfl rfl hl.1 rfl (lv_room (Nat.le_of_ble_eq_true rfl)) dX5_need_64 ⟨Nat.le_of_ble_eq_true rfl, Nat.le_of_ble_eq_true rfl⟩) (fun r15 u H locs hw hP hD hS => ?_)
        obtain ⟨hw, hb15⟩ := hw
        subst hw
        obtain ⟨j16, hJ16⟩ : ∃ z : Int32, z = (if (f_X5_has (mn (a1).toNatClampNeg) a2) = 0 then (1 : Int32) else (0 : Int32)) := ⟨_, rfl⟩
        rw [← hJ16] at he
        try dsimp only at he
        have hpJ16 := hp.1
        replace hp := hp.2 _  hJ16.symm
        have kont16 : (j16 = 0 ∨ j16 = 1) → ∀ (H : Heap) (locs : List Loc), va_P D vwCl (W_X5 cI m0 m1 m2 m3 m4 m5 m6 m7 m8 m9 m10 m11 mr mc me mw u12_0 mn mu ms mt md mz mi mk mo mj ml) H → va_D A (W_X5 cI m0 m1 m2 m3 m4 m5 m6 m7 m8 m9 m10 m11 mr mc me mw u12_0 mn mu ms mt md mz mi mk mo mj ml) → va_S A s.heap H locs → ∀ ls : Array Slot, lv_has ls 5 [(0, .ref m0), (1, .int a1), (2, .int a2)] → W p l e (headSpec wsX5_need rm_X5_need).room s m ([.ref m0, .int a1, .int a2] : List Value).toArray below meth c H locs 0 0 (MQ below (Q_X5_need D cI m0 m1 m2 m3 m4 m5 m6 m7 m8 m9 m10 m11 mr mc me mw mh mn mu ms mt md mz mi mk mo mj ml a1 a2 A) ([.ref m0, .int a1, .int a2] : List Value).toArray s 0 0 A) (F0 m 75 ls [.int j16]) := by
          intro hb16 H locs hP hD hS ls hl
          refine lv_istore (lv' := [(4, .int j16), (0, .ref m0), (1, .int a1), (2, .int a2)]) hx hb dX5_need_75 hl (by decide) rfl (fun ls hl => ?_)
          refine lv_aload_n hx hb dX5_need_77 rfl (lv_at hl 1 rfl) ?_
          refine va_get (D := D) (ci := 5) (v := .ref m1) (C := RX5) (T := TX5) (N := 16) hx hb hts (by decide +kernel) hown hK hP 0 rfl rfl 0 (by decide) (hts (.fieldLink RX5 7 "AlarmgroveModel" "needs" "[I") (by decide +kernel)) (fun _ h9 => h9) rfl dX5_need_78 ?_
          refine lv_iload_n hx hb dX5_need_81 rfl (lv_at hl 2 rfl) ?_
          refine lv_dup2_11 hx hb dX5_need_82 rfl rfl ?_
          have h18 := hp.1
          replace hp := hp.2
          refine va_iald hx hb hK hP 1 0 rfl rfl h18 dX5_need_83 ?_
          refine lv_iconst (v := 1) hx hb dX5_need_84 (by decide) ?_
          refine lv_iload_n hx hb dX5_need_85 rfl (lv_at hl 3 rfl) ?_
          refine lv_ishl hx hb dX5_need_86 ?_
          refine lv_ior hx hb dX5_need_87 ?_
          have h19 := hp.1
          replace hp := hp.2
          refine va_iast hx hb hK hP hD hS 1 0 rfl rfl h19 dX5_need_88 (fun H locs hP hD hS => ?_)
          have hP : va_P D vwCl (W_X5 cI m0 m1 m2 m3 m4 m5 m6 m7 m8 m9 m10 m11 mr mc me mw u12_0 (upd mn (a1).toNatClampNeg ((mn (a1).toNatClampNeg) ||| (1 <<< (a2 &&& 31)))) mu ms mt md mz mi mk mo mj ml) H := hP
          have hD : va_D A (W_X5 cI m0 m1 m2 m3 m4 m5 m6 m7 m8 m9 m10 m11 mr mc me mw u12_0 (upd mn (a1).toNatClampNeg ((mn (a1).toNatClampNeg) ||| (1 <<< (a2 &&& 31)))) mu ms mt md mz mi mk mo mj ml) := hD
          refine lv_aload_n hx hb dX5_need_89 rfl (lv_at hl 1 rfl) ?_
          have hq20 := hp.1
          replace hp := hp.2
          refine k_callv (S := AA) (wc := (W_X5 cI m0 m1 m2 m3 m4 m5 m6 m7 m8 m9 m10 m11 mr mc me mw u12_0 (upd mn (a1).toNatClampNeg ((mn (a1).toNatClampNeg) ||| (1 <<< (a2 &&& 31)))) mu ms mt md mz mi mk mo mj ml)) (wr := ([] : va_W)) (w1 := fun u => (W_X5 cI m0 m1 m2 m3 m4 m5 m6 m7 m8 m9 m10 m11 mr mc me mw u12_0 (upd mn (a1).toNatClampNeg ((mn (a1).toNatClampNeg) ||| (1 <<< (a2 &&& 31)))) u ms mt md mz mi mk mo mj ml)) (fun u => (W_X5 cI m0 m1 m2 m3 m4 m5 m6 m7 m8 m9 m10 m11 mr mc me mw u12_0 (upd mn (a1).toNatClampNeg ((mn (a1).toNatClampNeg) ||| (1 <<< (a2 &&& 31)))) u ms mt md mz mi mk mo mj ml)) hP hK hD hN hS hA [0, 1, 2, 3, 4, 5, 6, 7, 8, 9, 10, 11] [] rfl rfl (by decide) (by decide) (by decide) [0, 1, 2, 3, 4, 5, 6, 7, 8, 9, 10, 11] (by decide) (fun _ => rfl) (fun hg => va_runV (As := []) (rest := []) ⟨hx, hb, hml, hown, hts⟩ (c_X5_closes l D cI m0 m1 m2 m3 m4 m5 m6 m7 m8 m9 m10 m11 mr mc me mw u12_0 (upd mn (a1).toNatClampNeg ((mn (a1).toNatClampNeg) ||| (1 <<< (a2 &&& 31)))) mu ms mt md mz mi mk mo mj ml _ hq20) (cwV 0 hts gX5_need_X5_closes rfl rfl rfl (by decide +kernel) ⟨Nat.le_of_ble_eq_true rfl, Nat.le_of_ble_eq_true rfl⟩) ⟨PW.blind, va_recv hK hP (ci := 5) (q0 := 0) rfl rfl, fun U hU hW => ⟨rfl, hg U hU hW⟩⟩ rfl rfl hl.1 rfl (lv_room (Nat.le_of_ble_eq_true rfl)) dX5_need_90 ⟨Nat.le_of_ble_eq_true rfl, Nat.le_of_ble_eq_true rfl⟩) (fun u H locs hw hP hD hS => ?_)
          obtain ⟨u20_0, rfl⟩ : ∃ z, z = u := ⟨_, rfl⟩
          rw [hw] at he
          replace hp := hp u20_0 hw
          have hP : va_P D vwCl (W_X5 cI m0 m1 m2 m3 m4 m5 m6 m7 m8 m9 m10 m11 mr mc me mw u12_0 (upd mn (a1).toNatClampNeg ((mn (a1).toNatClampNeg) ||| (1 <<< (a2 &&& 31)))) u20_0 ms mt md mz mi mk mo mj ml) H := hP
          have hD : va_D A (W_X5 cI m0 m1 m2 m3 m4 m5 m6 m7 m8 m9 m10 m11 mr mc me mw u12_0 (upd mn (a1).toNatClampNeg ((mn (a1).toNatClampNeg) ||| (1 <<< (a2 &&& 31)))) u20_0 ms mt md mz mi mk mo mj ml) := hD
          refine lv_iload hx hb dX5_need_93 (lv_at hl 0 rfl) ?_
          exact W.zret (ty := .boolean) (v := j16) hx hb hr (by rcases hb16 with h9 | h9 <;> rw [h9] <;> rfl) (fun t ht hW => ⟨⟨j16, (u12_0, (upd mn (a1).toNatClampNeg ((mn (a1).toNatClampNeg) ||| (1 <<< (a2 &&& 31)))), u20_0), rfl, ⟨he, hb16⟩, by rw [ht]; exact hP, va_K.moved hW.alike hK, hD⟩, hS.F ht⟩) hS.2.2 dX5_need_95
        replace he := hJ16
        replace hp := hpJ16
        refine lv_if_ne (tgt := 74) hx hb dX5_need_67 (by decide) (fun c17 => ?_) (fun c17 => ?_)
        · replace hp := hp.2 c17
          replace he := he.trans (if_neg c17)
          refine lv_iconst (v := 0) hx hb dX5_need_74 (by decide) ?_
          subst he
          exact kont16 (Or.inl rfl) _ _ hP hD hS _ (lv_sub hl [0, 1, 2] rfl)
        · replace hp := hp.1 c17
          replace he := he.trans (if_pos c17)
          refine lv_iconst (v := 1) hx hb dX5_need_70 (by decide) ?_
          refine lv_goto (tgt := 75) hx hb dX5_need_71 (by decide) ?_
          subst he
          exact kont16 (Or.inr rfl) _ _ hP hD hS _ (lv_sub hl [0, 1, 2] rfl)
      · replace hp := hp.1 c13
        replace he := he.trans (if_pos c13)
        refine lv_iconst (v := 0) hx hb dX5_need_55 (by decide) ?_
        exact W.zret (ty := .boolean) (v := 0) hx hb hr rfl (fun t ht hW => ⟨⟨0, (u12_0, mn, mu), rfl, ⟨he, (Or.inl rfl)⟩, by rw [ht]; exact hP, va_K.moved hW.alike hK, hD⟩, hS.F ht⟩) hS.2.2 dX5_need_56
    replace he := hJ6
    replace hp := hpJ6
    refine lv_if_eq (tgt := 48) hx hb dX5_need_23 (by decide) (fun c7 => ?_) (fun c7 => ?_)
    · replace hp := hp.1 c7
      replace he := he.trans (if_pos c7)
      refine lv_iconst (v := 0) hx hb dX5_need_48 (by decide) ?_
      subst he
      exact kont6 (Or.inl rfl) _ _ hP hD hS _ (lv_sub hl [1, 2, 3] rfl)
    · replace hp := hp.2 c7
      replace he := he.trans (if_neg c7)
      refine lv_iload_n hx hb dX5_need_26 rfl (lv_at hl 2 rfl) ?_
      refine lv_iload_n hx hb dX5_need_27 rfl (lv_at hl 3 rfl) ?_
      refine lv_icmp_eq (tgt := 48) hx hb dX5_need_28 (by decide) (fun c8 => ?_) (fun c8 => ?_)
      · replace hp := hp.1 c8
        replace he := he.trans (if_pos c8)
        refine lv_iconst (v := 0) hx hb dX5_need_48 (by decide) ?_
        subst he
        exact kont6 (Or.inl rfl) _ _ hP hD hS _ (lv_sub hl [1, 2, 3] rfl)
      · replace hp := hp.2 c8
        replace he := he.trans (if_neg c8)
        refine lv_aload_n hx hb dX5_need_31 rfl (lv_at hl 1 rfl) ?_
        refine va_get (D := D) (ci := 5) (v := .ref m2) (C := RX5) (T := TX5) (N := 16) hx hb hts (by decide +kernel) hown hK hP 0 rfl rfl 1 (by decide) (hts (.fieldLink RX5 13 "AlarmgroveModel" "under" "[I") (by decide +kernel)) (fun _ h9 => h9) rfl dX5_need_32 ?_
        refine lv_iload_n hx hb dX5_need_35 rfl (lv_at hl 3 rfl) ?_
        have h9 := hp.1
        replace hp := hp.2
        refine va_iald hx hb hK hP 2 0 rfl rfl h9 dX5_need_36 ?_
        refine lv_iload_n hx hb dX5_need_37 rfl (lv_at hl 2 rfl) ?_
        refine k_calli (S := Unit) (wc := ([] : va_W)) (wr := (W_X5 cI m0 m1 m2 m3 m4 m5 m6 m7 m8 m9 m10 m11 mr mc me mw mh mn mu ms mt md mz mi mk mo mj ml)) (w1 := fun u => ([] : va_W)) (fun u => (W_X5 cI m0 m1 m2 m3 m4 m5 m6 m7 m8 m9 m10 m11 mr mc me mw mh mn mu ms mt md mz mi mk mo mj ml)) hP hK hD hN hS hA [] [0, 1, 2, 3, 4, 5, 6, 7, 8, 9, 10, 11] rfl rfl (by decide) (by decide) (by decide) [0, 1, 2, 3, 4, 5, 6, 7, 8, 9, 10, 11] (by decide) (fun _ => rfl) (fun hg => va_runS (As := [.int (mu (a2).toNatClampNeg), .int a1]) (rest := [.int j2, .ref m0]) ⟨hx, hb, hml, hown, hts⟩ (c_X5_has l D cI _ (mu (a2).toNatClampNeg) a1) (va_cwS 2 hts gX5_need_X5_has rfl rfl rfl (by decide +kernel) ⟨Nat.le_of_ble_eq_true rfl, Nat.le_of_ble_eq_true rfl⟩) ⟨PW.blind, fun U hU hW => ⟨rfl, hg U hU hW⟩⟩ rfl rfl hl.1 rfl (lv_room (Nat.le_of_ble_eq_true rfl)) dX5_need_38 ⟨Nat.le_of_ble_eq_true rfl, Nat.le_of_ble_eq_true rfl⟩) (fun r10 u H locs hw hP hD hS => ?_)
        obtain ⟨hw, hb10⟩ := hw
        subst hw
        refine lv_if_ne (tgt := 48) hx hb dX5_need_41 (by decide) (fun c11 => ?_) (fun c11 => ?_)
        · replace hp := hp.2 c11
          replace he := he.trans (if_neg c11)
          refine lv_iconst (v := 0) hx hb dX5_need_48 (by decide) ?_
          subst he
          exact kont6 (Or.inl rfl) _ _ hP hD hS _ (lv_sub hl [1, 2, 3] rfl)
        · replace hp := hp.1 c11
          replace he := he.trans (if_pos c11)
          refine lv_iconst (v := 1) hx hb dX5_need_44 (by decide) ?_
          refine lv_goto (tgt := 49) hx hb dX5_need_45 (by decide) ?_
          subst he
          exact kont6 (Or.inr rfl) _ _ hP hD hS _ (lv_sub hl [1, 2, 3] rfl)
  replace he := hJ2
  replace hp := hpJ2
  refine lv_if_eq (tgt := 18) hx hb dX5_need_4 (by decide) (fun c3 => ?_) (fun c3 => ?_)
  · replace hp := hp.1 c3
    replace he := he.trans (if_pos c3)
    refine lv_iconst (v := 0) hx hb dX5_need_18 (by decide) ?_
    subst he
    exact kont2 (Or.inl rfl) _ _ hP hD hS _ (lv_sub hl [0, 1, 2] rfl)
  · replace hp := hp.2 c3
    replace he := he.trans (if_neg c3)
    refine lv_iload_n hx hb dX5_need_7 rfl (lv_at hl 2 rfl) ?_
    refine k_calli (S := Unit) (wc := ([] : va_W)) (wr := (W_X5 cI m0 m1 m2 m3 m4 m5 m6 m7 m8 m9 m10 m11 mr mc me mw mh mn mu ms mt md mz mi mk mo mj ml)) (w1 := fun u => ([] : va_W)) (fun u => (W_X5 cI m0 m1 m2 m3 m4 m5 m6 m7 m8 m9 m10 m11 mr mc me mw mh mn mu ms mt md mz mi mk mo mj ml)) hP hK hD hN hS hA [] [0, 1, 2, 3, 4, 5, 6, 7, 8, 9, 10, 11] rfl rfl (by decide) (by decide) (by decide) [0, 1, 2, 3, 4, 5, 6, 7, 8, 9, 10, 11] (by decide) (fun _ => rfl) (fun hg => va_runS (As := [.int a2]) (rest := []) ⟨hx, hb, hml, hown, hts⟩ (c_X5_isNode l D cI _ a2) (va_cwS 1 hts gX5_need_X5_isNode rfl rfl rfl (by decide +kernel) ⟨Nat.le_of_ble_eq_true rfl, Nat.le_of_ble_eq_true rfl⟩) ⟨PW.blind, fun U hU hW => ⟨rfl, hg U hU hW⟩⟩ rfl rfl hl.1 rfl (lv_room (Nat.le_of_ble_eq_true rfl)) dX5_need_8 ⟨Nat.le_of_ble_eq_true rfl, Nat.le_of_ble_eq_true rfl⟩) (fun r4 u H locs hw hP hD hS => ?_)
    obtain ⟨hw, hb4⟩ := hw
    subst hw
    refine lv_if_eq (tgt := 18) hx hb dX5_need_11 (by decide) (fun c5 => ?_) (fun c5 => ?_)
    · replace hp := hp.1 c5
      replace he := he.trans (if_pos c5)
      refine lv_iconst (v := 0) hx hb dX5_need_18 (by decide) ?_
      subst he
      exact kont2 (Or.inl rfl) _ _ hP hD hS _ (lv_sub hl [0, 1, 2] rfl)
    · replace hp := hp.2 c5
      replace he := he.trans (if_neg c5)
      refine lv_iconst (v := 1) hx hb dX5_need_14 (by decide) ?_
      refine lv_goto (tgt := 19) hx hb dX5_need_15 (by decide) ?_
      subst he
      exact kont2 (Or.inr rfl) _ _ hP hD hS _ (lv_sub hl [0, 1, 2] rfl)
abbrev rm_X5_release : Room := { frames := 2, cells := 0, slots := 0, locals := 44 }
abbrev Q_X5_release (D : va_G) (cI : ClassId) (m0 m1 m2 m3 m4 m5 m6 m7 m8 m9 m10 m11 : Nat) (mr : Int32) (mc : Int32) (me : Int32) (mw : Int32) (mh : Int32) (mn : AA) (mu : AA) (ms : AA) (mt : AA) (md : AA) (mz : AA) (mi : AA) (mk : AA) (mo : AA) (mj : AA) (ml : AA) (a1 a2 : Int32) (A : Nat → Prop) : Array Value → State → Outcome → State → Prop := va_Qi (S := Int32 × AA × AA) (fun r u => f_X5_release mn mu a1 a2 = (r, u) ∧ (r = 0 ∨ r = 1)) (fun u t => QW D [(cI, .int)] A (W_X5 cI m0 m1 m2 m3 m4 m5 m6 m7 m8 m9 m10 m11 mr mc me mw u.1 u.2.1 u.2.2 ms mt md mz mi mk mo mj ml) t) A
set_option maxHeartbeats 4000000 in
set_option maxRecDepth 100000 in
theorem c_X5_release (l : Launch)  (D : va_G) (cI : ClassId) (m0 m1 m2 m3 m4 m5 m6 m7 m8 m9 m10 m11 : Nat) (mr : Int32) (mc : Int32) (me : Int32) (mw : Int32) (mh : Int32) (mn : AA) (mu : AA) (ms : AA) (mt : AA) (md : AA) (mz : AA) (mi : AA) (mk : AA) (mo : AA) (mj : AA) (ml : AA) (sz : Nat) (a1 a2 : Int32) (hp : p_X5_release mn mu a1 a2) : Met l yX5_release wsX5_release rm_X5_release (va_Pc [.ref m0, .int a1, .int a2] (PW D [(cI, .int)] sz (W_X5 cI m0 m1 m2 m3 m4 m5 m6 m7 m8 m9 m10 m11 mr mc me mw mh mn mu ms mt md mz mi mk mo mj ml))) (Q_X5_release D cI m0 m1 m2 m3 m4 m5 m6 m7 m8 m9 m10 m11 mr mc me mw mh mn mu ms mt md mz mi mk mo mj ml a1 a2 (va_A (W_X5 cI m0 m1 m2 m3 m4 m5 m6 m7 m8 m9 m10 m11 mr mc me mw mh mn mu ms mt md mz mi mk mo mj ml) sz)) 0 0 (va_A (W_X5 cI m0 m1 m2 m3 m4 m5 m6 m7 m8 m9 m10 m11 mr mc me mw mh mn mu ms mt md mz mi mk mo mj ml) sz) := by
  refine Met.ofW (cc := cX5_release) (maxL := 4) (ret := (some .boolean)) (by decide) rfl ?_
  intro p e s m args below meth c s₁ B hml hv
  obtain ⟨rfl, hsz, hP, hK, hD0, hN⟩ := hv
  have hx := B.exec
  have hb := B.bytes
  have hr := B.returns
  have hts := atoms_spec (ws := wsX5_release) B.pre
  have hown : s.vm.findClass RX5 = some m.cls := findClass_of_methodNamed B.named
  have hlocks := B.notSynchronized
  subst hsz
  have hD := hD0.self (sz := s.heap.size)
  generalize hAe : va_A (W_X5 cI m0 m1 m2 m3 m4 m5 m6 m7 m8 m9 m10 m11 mr mc me mw mh mn mu ms mt md mz mi mk mo mj ml) s.heap.size = A at hD ⊢
  have hA : ∀ q : Nat, s.heap.size ≤ q → A q := fun q h => by rw [← hAe]; exact Or.inr h
  have hS : va_S A s.heap s.heap [] := va_S.rf
  have hl := lv_entry ([.ref m0, .int a1, .int a2]) (n := 4) (Nat.le_of_ble_eq_true rfl)
  rw [lg_entry_eq]
  generalize (lg_sl ([.ref m0, .int a1, .int a2]) ++ List.replicate (4 - (lg_sl ([.ref m0, .int a1, .int a2])).length) Slot.unset).toArray = ls at hl ⊢
  have hl : lv_has ls 4 [(0, .ref m0), (1, .int a1), (2, .int a2)] := hl
  have he := f_X5_release.eq_1 mn mu a1 a2
  replace hp := Eq.mp (p_X5_release.eq_1 ..) hp
  refine lv_aload_n hx hb dX5_release_0 rfl (lv_at hl 0 rfl) ?_
  refine lv_iload_n hx hb dX5_release_1 rfl (lv_at hl 1 rfl) ?_
  refine k_calli (S := Unit) (wc := ([] : va_W)) (wr := (W_X5 cI m0 m1 m2 m3 m4 m5 m6 m7 m8 m9 m10 m11 mr mc me mw mh mn mu ms mt md mz mi mk mo mj ml)) (w1 := fun u => ([] : va_W)) (fun u => (W_X5 cI m0 m1 m2 m3 m4 m5 m6 m7 m8 m9 m10 m11 mr mc me mw mh mn mu ms mt md mz mi mk mo mj ml)) hP hK hD hN hS hA [] [0, 1, 2, 3, 4, 5, 6, 7, 8, 9, 10, 11] rfl rfl (by decide) (by decide) (by decide) [0, 1, 2, 3, 4, 5, 6, 7, 8, 9, 10, 11] (by decide) (fun _ => rfl) (fun hg => va_runS (As := [.int a1]) (rest := [.ref m0]) ⟨hx, hb, hml, hown, hts⟩ (c_X5_isNode l D cI _ a1) (va_cwS 1 hts gX5_release_X5_isNode rfl rfl rfl (by decide +kernel) ⟨Nat.le_of_ble_eq_true rfl, Nat.le_of_ble_eq_true rfl⟩) ⟨PW.blind, fun U hU hW => ⟨rfl, hg U hU hW⟩⟩ rfl rfl hl.1 rfl (lv_room (Nat.le_of_ble_eq_true rfl)) dX5_release_2 ⟨Nat.le_of_ble_eq_true rfl, Nat.le_of_ble_eq_true rfl⟩) (fun r1 u H locs hw hP hD hS => ?_)
  obtain ⟨hw, hb1⟩ := hw
  subst hw
  obtain ⟨j2, hJ2⟩ : ∃ z : Int32, z = (if (f_X5_isNode a1) = 0 then (0 : Int32) else (if (f_X5_isNode a2) = 0 then (0 : Int32) else (1 : Int32))) := ⟨_, rfl⟩
  rw [← hJ2] at he
  try dsimp only at he
  have hpJ2 := hp.1
  replace hp := hp.2 _  hJ2.symm
  have kont2 : (j2 = 0 ∨ j2 = 1) → ∀ (H : Heap) (locs : List Loc), va_P D vwCl (W_X5 cI m0 m1 m2 m3 m4 m5 m6 m7 m8 m9 m10 m11 mr mc me mw mh mn mu ms mt md mz mi mk mo mj ml) H → va_D A (W_X5 cI m0 m1 m2 m3 m4 m5 m6 m7 m8 m9 m10 m11 mr mc me mw mh mn mu ms mt md mz mi mk mo mj ml) → va_S A s.heap H locs → ∀ ls : Array Slot, lv_has ls 4 [(0, .ref m0), (1, .int a1), (2, .int a2)] → W p l e (headSpec wsX5_release rm_X5_release).room s m ([.ref m0, .int a1, .int a2] : List Value).toArray below meth c H locs 0 0 (MQ below (Q_X5_release D cI m0 m1 m2 m3 m4 m5 m6 m7 m8 m9 m10 m11 mr mc me mw mh mn mu ms mt md mz mi mk mo mj ml a1 a2 A) ([.ref m0, .int a1, .int a2] : List Value).toArray s 0 0 A) (F0 m 20 ls [.int j2, .ref m0]) := by
    intro hb2 H locs hP hD hS ls hl
    refine lv_iconst (v := 1) hx hb dX5_release_20 (by decide) ?_
    refine k_calli (S := Int32) (wc := (W_X5 cI m0 m1 m2 m3 m4 m5 m6 m7 m8 m9 m10 m11 mr mc me mw mh mn mu ms mt md mz mi mk mo mj ml)) (wr := ([] : va_W)) (w1 := fun u => (W_X5 cI m0 m1 m2 m3 m4 m5 m6 m7 m8 m9 m10 m11 mr mc me mw u mn mu ms mt md mz mi mk mo mj ml)) (fun u => (W_X5 cI m0 m1 m2 m3 m4 m5 m6 m7 m8 m9 m10 m11 mr mc me mw u mn mu ms mt md mz mi mk mo mj ml)) hP hK hD hN hS hA [0, 1, 2, 3, 4, 5, 6, 7, 8, 9, 10, 11] [] rfl rfl (by decide) (by decide) (by decide) [0, 1, 2, 3, 4, 5, 6, 7, 8, 9, 10, 11] (by decide) (fun _ => rfl) (fun hg => va_runV (As := [.int j2, .int 1]) (rest := []) ⟨hx, hb, hml, hown, hts⟩ (c_X5_goes l D cI m0 m1 m2 m3 m4 m5 m6 m7 m8 m9 m10 m11 mr mc me mw mh mn mu ms mt md mz mi mk mo mj ml _ j2 1) (cwV 2 hts gX5_release_X5_goes rfl rfl rfl (by decide +kernel) ⟨Nat.le_of_ble_eq_true rfl, Nat.le_of_ble_eq_true rfl⟩) ⟨PW.blind, va_recv hK hP (ci := 5) (q0 := 0) rfl rfl, fun U hU hW => ⟨rfl, hg U hU hW⟩⟩ rfl rfl hl.1 rfl (lv_room (Nat.le_of_ble_eq_true rfl)) dX5_release_21 ⟨Nat.le_of_ble_eq_true rfl, Nat.le_of_ble_eq_true rfl⟩) (fun r6 u H locs hw hP hD hS => ?_)
    obtain ⟨u6_0, rfl⟩ : ∃ z, z = u := ⟨_, rfl⟩
    obtain ⟨hw, hb6⟩ := hw
    rw [hw] at he
    try dsimp only at he
    replace hp := hp r6 u6_0 hw
    have hP : va_P D vwCl (W_X5 cI m0 m1 m2 m3 m4 m5 m6 m7 m8 m9 m10 m11 mr mc me mw u6_0 mn mu ms mt md mz mi mk mo mj ml) H := hP
    have hD : va_D A (W_X5 cI m0 m1 m2 m3 m4 m5 m6 m7 m8 m9 m10 m11 mr mc me mw u6_0 mn mu ms mt md mz mi mk mo mj ml) := hD
    refine lv_if_ne (tgt := 29) hx hb dX5_release_24 (by decide) (fun c7 => ?_) (fun c7 => ?_)
    · replace hp := hp.2 c7
      replace he := he.trans (if_neg c7)
      refine lv_aload_n hx hb dX5_release_29 rfl (lv_at hl 0 rfl) ?_
      refine va_get (D := D) (ci := 5) (v := .ref m1) (C := RX5) (T := TX5) (N := 16) hx hb hts (by decide +kernel) hown hK hP 0 rfl rfl 0 (by decide) (hts (.fieldLink RX5 7 "AlarmgroveModel" "needs" "[I") (by decide +kernel)) (fun _ h9 => h9) rfl dX5_release_30 ?_
      refine lv_iload_n hx hb dX5_release_33 rfl (lv_at hl 1 rfl) ?_
      have h8 := hp.1
      replace hp := hp.2
      refine va_iald hx hb hK hP 1 0 rfl rfl h8 dX5_release_34 ?_
      refine lv_iload_n hx hb dX5_release_35 rfl (lv_at hl 2 rfl) ?_
      refine k_calli (S := Unit) (wc := ([] : va_W)) (wr := (W_X5 cI m0 m1 m2 m3 m4 m5 m6 m7 m8 m9 m10 m11 mr mc me mw u6_0 mn mu ms mt md mz mi mk mo mj ml)) (w1 := fun u => ([] : va_W)) (fun u => (W_X5 cI m0 m1 m2 m3 m4 m5 m6 m7 m8 m9 m10 m11 mr mc me mw u6_0 mn mu ms mt md mz mi mk mo mj ml)) hP hK hD hN hS hA [] [0, 1, 2, 3, 4, 5, 6, 7, 8, 9, 10, 11] rfl rfl (by decide) (by decide) (by decide) [0, 1, 2, 3, 4, 5, 6, 7, 8, 9, 10, 11] (by decide) (fun _ => rfl) (fun hg => va_runS (As := [.int (mn (a1).toNatClampNeg), .int a2]) (rest := []) ⟨hx, hb, hml, hown, hts⟩ (c_X5_has l D cI _ (mn (a1).toNatClampNeg) a2) (va_cwS 2 hts gX5_release_X5_has rfl rfl rfl (by decide +kernel) ⟨Nat.le_of_ble_eq_true rfl, Nat.le_of_ble_eq_true rfl⟩) ⟨PW.blind, fun U hU hW => ⟨rfl, hg U hU hW⟩⟩ rfl rfl hl.1 rfl (lv_room (Nat.le_of_ble_eq_true rfl)) dX5_release_36 ⟨Nat.le_of_ble_eq_true rfl, Nat.le_of_ble_eq_true rfl⟩) (fun r9 u H locs hw hP hD hS => ?_)
      obtain ⟨hw, hb9⟩ := hw
      subst hw
      refine lv_istore_n (lv' := [(3, .int (f_X5_has (mn (a1).toNatClampNeg) a2)), (0, .ref m0), (1, .int a1), (2, .int a2)]) hx hb dX5_release_39 rfl hl (by decide) rfl (fun ls hl => ?_)
      refine lv_aload_n hx hb dX5_release_40 rfl (lv_at hl 1 rfl) ?_
      refine va_get (D := D) (ci := 5) (v := .ref m1) (C := RX5) (T := TX5) (N := 16) hx hb hts (by decide +kernel) hown hK hP 0 rfl rfl 0 (by decide) (hts (.fieldLink RX5 7 "AlarmgroveModel" "needs" "[I") (by decide +kernel)) (fun _ h9 => h9) rfl dX5_release_41 ?_
      refine lv_iload_n hx hb dX5_release_44 rfl (lv_at hl 2 rfl) ?_
      refine lv_dup2_11 hx hb dX5_release_45 rfl rfl ?_
      have h10 := hp.1
      replace hp := hp.2
      refine va_iald hx hb hK hP 1 0 rfl rfl h10 dX5_release_46 ?_
      refine lv_iconst (v := 1) hx hb dX5_release_47 (by decide) ?_
      refine lv_iload_n hx hb dX5_release_48 rfl (lv_at hl 3 rfl) ?_
      refine lv_ishl hx hb dX5_release_49 ?_
      refine lv_iconst (v := (-1)) hx hb dX5_release_50 (by decide) ?_
      refine lv_ixor hx hb dX5_release_51 ?_
      refine lv_iand hx hb dX5_release_52 ?_
      have h11 := hp.1
      replace hp := hp.2
      refine va_iast hx hb hK hP hD hS 1 0 rfl rfl h11 dX5_release_53 (fun H locs hP hD hS => ?_)
      have hP : va_P D vwCl (W_X5 cI m0 m1 m2 m3 m4 m5 m6 m7 m8 m9 m10 m11 mr mc me mw u6_0 (upd mn (a1).toNatClampNeg ((mn (a1).toNatClampNeg) &&& ((1 <<< (a2 &&& 31)) ^^^ (-1)))) mu ms mt md mz mi mk mo mj ml) H := hP
      have hD : va_D A (W_X5 cI m0 m1 m2 m3 m4 m5 m6 m7 m8 m9 m10 m11 mr mc me mw u6_0 (upd mn (a1).toNatClampNeg ((mn (a1).toNatClampNeg) &&& ((1 <<< (a2 &&& 31)) ^^^ (-1)))) mu ms mt md mz mi mk mo mj ml) := hD
      refine lv_aload_n hx hb dX5_release_54 rfl (lv_at hl 1 rfl) ?_
      have hq12 := hp.1
      replace hp := hp.2
      refine k_callv (S := AA) (wc := (W_X5 cI m0 m1 m2 m3 m4 m5 m6 m7 m8 m9 m10 m11 mr mc me mw u6_0 (upd mn (a1).toNatClampNeg ((mn (a1).toNatClampNeg) &&& ((1 <<< (a2 &&& 31)) ^^^ (-1)))) mu ms mt md mz mi mk mo mj ml)) (wr := ([] : va_W)) (w1 := fun u => (W_X5 cI m0 m1 m2 m3 m4 m5 m6 m7 m8 m9 m10 m11 mr mc me mw u6_0 (upd mn (a1).toNatClampNeg ((mn (a1).toNatClampNeg) &&& ((1 <<< (a2 &&& 31)) ^^^ (-1)))) u ms mt md mz mi mk mo mj ml)) (fun u => (W_X5 cI m0 m1 m2 m3 m4 m5 m6 m7 m8 m9 m10 m11 mr mc me mw u6_0 (upd mn (a1).toNatClampNeg ((mn (a1).toNatClampNeg) &&& ((1 <<< (a2 &&& 31)) ^^^ (-1)))) u ms mt md mz mi mk mo mj ml)) hP hK hD hN hS hA [0, 1, 2, 3, 4, 5, 6, 7, 8, 9, 10, 11] [] rfl rfl (by decide) (by decide) (by decide) [0, 1, 2, 3, 4, 5, 6, 7, 8, 9, 10, 11] (by decide) (fun _ => rfl) (fun hg => va_runV (As := []) (rest := []) ⟨hx, hb, hml, hown, hts⟩ (c_X5_closes l D cI m0 m1 m2 m3 m4 m5 m6 m7 m8 m9 m10 m11 mr mc me mw u6_0 (upd mn (a1).toNatClampNeg ((mn (a1).toNatClampNeg) &&& ((1 <<< (a2 &&& 31)) ^^^ (-1)))) mu ms mt md mz mi mk mo mj ml _ hq12) (cwV 0 hts gX5_release_X5_closes rfl rfl rfl (by decide +kernel) ⟨Nat.le_of_ble_eq_true rfl, Nat.le_of_ble_eq_true rfl⟩) ⟨PW.blind, va_recv hK hP (ci := 5) (q0 := 0) rfl rfl, fun U hU hW => ⟨rfl, hg U hU hW⟩⟩ rfl rfl hl.1 rfl (lv_room (Nat.le_of_ble_eq_true rfl)) dX5_release_55 ⟨Nat.le_of_ble_eq_true rfl, Nat.le_of_ble_eq_true rfl⟩) (fun u H locs hw hP hD hS => ?_)
      obtain ⟨u12_0, rfl⟩ : ∃ z, z = u := ⟨_, rfl⟩
      rw [hw] at he
      replace hp := hp u12_0 hw
      have hP : va_P D vwCl (W_X5 cI m0 m1 m2 m3 m4 m5 m6 m7 m8 m9 m10 m11 mr mc me mw u6_0 (upd mn (a1).toNatClampNeg ((mn (a1).toNatClampNeg) &&& ((1 <<< (a2 &&& 31)) ^^^ (-1)))) u12_0 ms mt md mz mi mk mo mj ml) H := hP
      have hD : va_D A (W_X5 cI m0 m1 m2 m3 m4 m5 m6 m7 m8 m9 m10 m11 mr mc me mw u6_0 (upd mn (a1).toNatClampNeg ((mn (a1).toNatClampNeg) &&& ((1 <<< (a2 &&& 31)) ^^^ (-1)))) u12_0 ms mt md mz mi mk mo mj ml) := hD
      refine lv_iload_n hx hb dX5_release_58 rfl (lv_at hl 0 rfl) ?_
      exact W.zret (ty := .boolean) (v := (f_X5_has (mn (a1).toNatClampNeg) a2)) hx hb hr (by rcases hb9 with h9 | h9 <;> rw [h9] <;> rfl) (fun t ht hW => ⟨⟨(f_X5_has (mn (a1).toNatClampNeg) a2), (u6_0, (upd mn (a1).toNatClampNeg ((mn (a1).toNatClampNeg) &&& ((1 <<< (a2 &&& 31)) ^^^ (-1)))), u12_0), rfl, ⟨he, hb9⟩, by rw [ht]; exact hP, va_K.moved hW.alike hK, hD⟩, hS.F ht⟩) hS.2.2 dX5_release_59
    · replace hp := hp.1 c7
      replace he := he.trans (if_pos c7)
      refine lv_iconst (v := 0) hx hb dX5_release_27 (by decide) ?_
      exact W.zret (ty := .boolean) (v := 0) hx hb hr rfl (fun t ht hW => ⟨⟨0, (u6_0, mn, mu), rfl, ⟨he, (Or.inl rfl)⟩, by rw [ht]; exact hP, va_K.moved hW.alike hK, hD⟩, hS.F ht⟩) hS.2.2 dX5_release_28
  replace he := hJ2
  replace hp := hpJ2
  refine lv_if_eq (tgt := 19) hx hb dX5_release_5 (by decide) (fun c3 => ?_) (fun c3 => ?_)
  · replace hp := hp.1 c3
    replace he := he.trans (if_pos c3)
    refine lv_iconst (v := 0) hx hb dX5_release_19 (by decide) ?_
    subst he
    exact kont2 (Or.inl rfl) _ _ hP hD hS _ (lv_sub hl [0, 1, 2] rfl)
  · replace hp := hp.2 c3
    replace he := he.trans (if_neg c3)
    refine lv_iload_n hx hb dX5_release_8 rfl (lv_at hl 2 rfl) ?_
    refine k_calli (S := Unit) (wc := ([] : va_W)) (wr := (W_X5 cI m0 m1 m2 m3 m4 m5 m6 m7 m8 m9 m10 m11 mr mc me mw mh mn mu ms mt md mz mi mk mo mj ml)) (w1 := fun u => ([] : va_W)) (fun u => (W_X5 cI m0 m1 m2 m3 m4 m5 m6 m7 m8 m9 m10 m11 mr mc me mw mh mn mu ms mt md mz mi mk mo mj ml)) hP hK hD hN hS hA [] [0, 1, 2, 3, 4, 5, 6, 7, 8, 9, 10, 11] rfl rfl (by decide) (by decide) (by decide) [0, 1, 2, 3, 4, 5, 6, 7, 8, 9, 10, 11] (by decide) (fun _ => rfl) (fun hg => va_runS (As := [.int a2]) (rest := [.ref m0]) ⟨hx, hb, hml, hown, hts⟩ (c_X5_isNode l D cI _ a2) (va_cwS 1 hts gX5_release_X5_isNode rfl rfl rfl (by decide +kernel) ⟨Nat.le_of_ble_eq_true rfl, Nat.le_of_ble_eq_true rfl⟩) ⟨PW.blind, fun U hU hW => ⟨rfl, hg U hU hW⟩⟩ rfl rfl hl.1 rfl (lv_room (Nat.le_of_ble_eq_true rfl)) dX5_release_9 ⟨Nat.le_of_ble_eq_true rfl, Nat.le_of_ble_eq_true rfl⟩) (fun r4 u H locs hw hP hD hS => ?_)
    obtain ⟨hw, hb4⟩ := hw
    subst hw
    refine lv_if_eq (tgt := 19) hx hb dX5_release_12 (by decide) (fun c5 => ?_) (fun c5 => ?_)
    · replace hp := hp.1 c5
      replace he := he.trans (if_pos c5)
      refine lv_iconst (v := 0) hx hb dX5_release_19 (by decide) ?_
      subst he
      exact kont2 (Or.inl rfl) _ _ hP hD hS _ (lv_sub hl [0, 1, 2] rfl)
    · replace hp := hp.2 c5
      replace he := he.trans (if_neg c5)
      refine lv_iconst (v := 1) hx hb dX5_release_15 (by decide) ?_
      refine lv_goto (tgt := 20) hx hb dX5_release_16 (by decide) ?_
      subst he
      exact kont2 (Or.inr rfl) _ _ hP hD hS _ (lv_sub hl [0, 1, 2] rfl)
abbrev rm_X5_needs : Room := { frames := 1, cells := 0, slots := 0, locals := 22 }
abbrev Q_X5_needs (D : va_G) (cI : ClassId) (m0 m1 m2 m3 m4 m5 m6 m7 m8 m9 m10 m11 : Nat) (mr : Int32) (mc : Int32) (me : Int32) (mw : Int32) (mh : Int32) (mn : AA) (mu : AA) (ms : AA) (mt : AA) (md : AA) (mz : AA) (mi : AA) (mk : AA) (mo : AA) (mj : AA) (ml : AA) (a1 a2 : Int32) (A : Nat → Prop) : Array Value → State → Outcome → State → Prop := va_Qi (S := Int32) (fun r u => f_X5_needs mn a1 a2 = (r, u) ∧ (r = 0 ∨ r = 1)) (fun u t => QW D [(cI, .int)] A (W_X5 cI m0 m1 m2 m3 m4 m5 m6 m7 m8 m9 m10 m11 mr mc me mw u mn mu ms mt md mz mi mk mo mj ml) t) A
set_option maxHeartbeats 4000000 in
set_option maxRecDepth 100000 in
theorem c_X5_needs (l : Launch)  (D : va_G) (cI : ClassId) (m0 m1 m2 m3 m4 m5 m6 m7 m8 m9 m10 m11 : Nat) (mr : Int32) (mc : Int32) (me : Int32) (mw : Int32) (mh : Int32) (mn : AA) (mu : AA) (ms : AA) (mt : AA) (md : AA) (mz : AA) (mi : AA) (mk : AA) (mo : AA) (mj : AA) (ml : AA) (sz : Nat) (a1 a2 : Int32) (hp : p_X5_needs mn a1 a2) : Met l yX5_needs wsX5_needs rm_X5_needs (va_Pc [.ref m0, .int a1, .int a2] (PW D [(cI, .int)] sz (W_X5 cI m0 m1 m2 m3 m4 m5 m6 m7 m8 m9 m10 m11 mr mc me mw mh mn mu ms mt md mz mi mk mo mj ml))) (Q_X5_needs D cI m0 m1 m2 m3 m4 m5 m6 m7 m8 m9 m10 m11 mr mc me mw mh mn mu ms mt md mz mi mk mo mj ml a1 a2 (va_A (W_X5 cI m0 m1 m2 m3 m4 m5 m6 m7 m8 m9 m10 m11 mr mc me mw mh mn mu ms mt md mz mi mk mo mj ml) sz)) 0 0 (va_A (W_X5 cI m0 m1 m2 m3 m4 m5 m6 m7 m8 m9 m10 m11 mr mc me mw mh mn mu ms mt md mz mi mk mo mj ml) sz) := by
  refine Met.ofW (cc := cX5_needs) (maxL := 3) (ret := (some .boolean)) (by decide) rfl ?_
  intro p e s m args below meth c s₁ B hml hv
  obtain ⟨rfl, hsz, hP, hK, hD0, hN⟩ := hv
  have hx := B.exec
  have hb := B.bytes
  have hr := B.returns
  have hts := atoms_spec (ws := wsX5_needs) B.pre
  have hown : s.vm.findClass RX5 = some m.cls := findClass_of_methodNamed B.named
  have hlocks := B.notSynchronized
  subst hsz
  have hD := hD0.self (sz := s.heap.size)
  generalize hAe : va_A (W_X5 cI m0 m1 m2 m3 m4 m5 m6 m7 m8 m9 m10 m11 mr mc me mw mh mn mu ms mt md mz mi mk mo mj ml) s.heap.size = A at hD ⊢
  have hA : ∀ q : Nat, s.heap.size ≤ q → A q := fun q h => by rw [← hAe]; exact Or.inr h
  have hS : va_S A s.heap s.heap [] := va_S.rf
  have hl := lv_entry ([.ref m0, .int a1, .int a2]) (n := 3) (Nat.le_of_ble_eq_true rfl)
  rw [lg_entry_eq]
  generalize (lg_sl ([.ref m0, .int a1, .int a2]) ++ List.replicate (3 - (lg_sl ([.ref m0, .int a1, .int a2])).length) Slot.unset).toArray = ls at hl ⊢
  have hl : lv_has ls 3 [(0, .ref m0), (1, .int a1), (2, .int a2)] := hl
  have he := f_X5_needs.eq_1 mn a1 a2
  replace hp := Eq.mp (p_X5_needs.eq_1 ..) hp
  refine lv_aload_n hx hb dX5_needs_0 rfl (lv_at hl 0 rfl) ?_
  refine lv_iload_n hx hb dX5_needs_1 rfl (lv_at hl 1 rfl) ?_
  refine k_calli (S := Unit) (wc := ([] : va_W)) (wr := (W_X5 cI m0 m1 m2 m3 m4 m5 m6 m7 m8 m9 m10 m11 mr mc me mw mh mn mu ms mt md mz mi mk mo mj ml)) (w1 := fun u => ([] : va_W)) (fun u => (W_X5 cI m0 m1 m2 m3 m4 m5 m6 m7 m8 m9 m10 m11 mr mc me mw mh mn mu ms mt md mz mi mk mo mj ml)) hP hK hD hN hS hA [] [0, 1, 2, 3, 4, 5, 6, 7, 8, 9, 10, 11] rfl rfl (by decide) (by decide) (by decide) [0, 1, 2, 3, 4, 5, 6, 7, 8, 9, 10, 11] (by decide) (fun _ => rfl) (fun hg => va_runS (As := [.int a1]) (rest := [.ref m0]) ⟨hx, hb, hml, hown, hts⟩ (c_X5_isNode l D cI _ a1) (va_cwS 1 hts gX5_needs_X5_isNode rfl rfl rfl (by decide +kernel) ⟨Nat.le_of_ble_eq_true rfl, Nat.le_of_ble_eq_true rfl⟩) ⟨PW.blind, fun U hU hW => ⟨rfl, hg U hU hW⟩⟩ rfl rfl hl.1 rfl (lv_room (Nat.le_of_ble_eq_true rfl)) dX5_needs_2 ⟨Nat.le_of_ble_eq_true rfl, Nat.le_of_ble_eq_true rfl⟩) (fun r1 u H locs hw hP hD hS => ?_)
  obtain ⟨hw, hb1⟩ := hw
  subst hw
  obtain ⟨j2, hJ2⟩ : ∃ z : Int32, z = (if (f_X5_isNode a1) = 0 then (0 : Int32) else (if (f_X5_isNode a2) = 0 then (0 : Int32) else (1 : Int32))) := ⟨_, rfl⟩
  rw [← hJ2] at he
  try dsimp only at he
  have hpJ2 := hp.1
  replace hp := hp.2 _  hJ2.symm
  have kont2 : (j2 = 0 ∨ j2 = 1) → ∀ (H : Heap) (locs : List Loc), va_P D vwCl (W_X5 cI m0 m1 m2 m3 m4 m5 m6 m7 m8 m9 m10 m11 mr mc me mw mh mn mu ms mt md mz mi mk mo mj ml) H → va_D A (W_X5 cI m0 m1 m2 m3 m4 m5 m6 m7 m8 m9 m10 m11 mr mc me mw mh mn mu ms mt md mz mi mk mo mj ml) → va_S A s.heap H locs → ∀ ls : Array Slot, lv_has ls 3 [(0, .ref m0), (1, .int a1), (2, .int a2)] → W p l e (headSpec wsX5_needs rm_X5_needs).room s m ([.ref m0, .int a1, .int a2] : List Value).toArray below meth c H locs 0 0 (MQ below (Q_X5_needs D cI m0 m1 m2 m3 m4 m5 m6 m7 m8 m9 m10 m11 mr mc me mw mh mn mu ms mt md mz mi mk mo mj ml a1 a2 A) ([.ref m0, .int a1, .int a2] : List Value).toArray s 0 0 A) (F0 m 20 ls [.int j2, .ref m0]) := by
    intro hb2 H locs hP hD hS ls hl
    refine lv_iconst (v := 1) hx hb dX5_needs_20 (by decide) ?_
    refine k_calli (S := Int32) (wc := (W_X5 cI m0 m1 m2 m3 m4 m5 m6 m7 m8 m9 m10 m11 mr mc me mw mh mn mu ms mt md mz mi mk mo mj ml)) (wr := ([] : va_W)) (w1 := fun u => (W_X5 cI m0 m1 m2 m3 m4 m5 m6 m7 m8 m9 m10 m11 mr mc me mw u mn mu ms mt md mz mi mk mo mj ml)) (fun u => (W_X5 cI m0 m1 m2 m3 m4 m5 m6 m7 m8 m9 m10 m11 mr mc me mw u mn mu ms mt md mz mi mk mo mj ml)) hP hK hD hN hS hA [0, 1, 2, 3, 4, 5, 6, 7, 8, 9, 10, 11] [] rfl rfl (by decide) (by decide) (by decide) [0, 1, 2, 3, 4, 5, 6, 7, 8, 9, 10, 11] (by decide) (fun _ => rfl) (fun hg => va_runV (As := [.int j2, .int 1]) (rest := []) ⟨hx, hb, hml, hown, hts⟩ (c_X5_goes l D cI m0 m1 m2 m3 m4 m5 m6 m7 m8 m9 m10 m11 mr mc me mw mh mn mu ms mt md mz mi mk mo mj ml _ j2 1) (cwV 2 hts gX5_needs_X5_goes rfl rfl rfl (by decide +kernel) ⟨Nat.le_of_ble_eq_true rfl, Nat.le_of_ble_eq_true rfl⟩) ⟨PW.blind, va_recv hK hP (ci := 5) (q0 := 0) rfl rfl, fun U hU hW => ⟨rfl, hg U hU hW⟩⟩ rfl rfl hl.1 rfl (lv_room (Nat.le_of_ble_eq_true rfl)) dX5_needs_21 ⟨Nat.le_of_ble_eq_true rfl, Nat.le_of_ble_eq_true rfl⟩) (fun r6 u H locs hw hP hD hS => ?_)
    obtain ⟨u6_0, rfl⟩ : ∃ z, z = u := ⟨_, rfl⟩
    obtain ⟨hw, hb6⟩ := hw
    rw [hw] at he
    try dsimp only at he
    replace hp := hp r6 u6_0 hw
    have hP : va_P D vwCl (W_X5 cI m0 m1 m2 m3 m4 m5 m6 m7 m8 m9 m10 m11 mr mc me mw u6_0 mn mu ms mt md mz mi mk mo mj ml) H := hP
    have hD : va_D A (W_X5 cI m0 m1 m2 m3 m4 m5 m6 m7 m8 m9 m10 m11 mr mc me mw u6_0 mn mu ms mt md mz mi mk mo mj ml) := hD
    obtain ⟨j7, hJ7⟩ : ∃ z : Int32, z = (if r6 = 0 then (0 : Int32) else (if (f_X5_has (mn (a1).toNatClampNeg) a2) = 0 then (0 : Int32) else (1 : Int32))) := ⟨_, rfl⟩
    rw [← hJ7] at he
    try dsimp only at he
    have hpJ7 := hp.1
    replace hp := hp.2 _  hJ7.symm
    have kont7 : (j7 = 0 ∨ j7 = 1) → ∀ (H : Heap) (locs : List Loc), va_P D vwCl (W_X5 cI m0 m1 m2 m3 m4 m5 m6 m7 m8 m9 m10 m11 mr mc me mw u6_0 mn mu ms mt md mz mi mk mo mj ml) H → va_D A (W_X5 cI m0 m1 m2 m3 m4 m5 m6 m7 m8 m9 m10 m11 mr mc me mw u6_0 mn mu ms mt md mz mi mk mo mj ml) → va_S A s.heap H locs → ∀ ls : Array Slot, lv_has ls 3 [] → W p l e (headSpec wsX5_needs rm_X5_needs).room s m ([.ref m0, .int a1, .int a2] : List Value).toArray below meth c H locs 0 0 (MQ below (Q_X5_needs D cI m0 m1 m2 m3 m4 m5 m6 m7 m8 m9 m10 m11 mr mc me mw mh mn mu ms mt md mz mi mk mo mj ml a1 a2 A) ([.ref m0, .int a1, .int a2] : List Value).toArray s 0 0 A) (F0 m 45 ls [.int j7]) := by
      intro hb7 H locs hP hD hS ls hl
      exact W.zret (ty := .boolean) (v := j7) hx hb hr (by rcases hb7 with h9 | h9 <;> rw [h9] <;> rfl) (fun t ht hW => ⟨⟨j7, u6_0, rfl, ⟨he, hb7⟩, by rw [ht]; exact hP, va_K.moved hW.alike hK, hD⟩, hS.F ht⟩) hS.2.2 dX5_needs_45
    replace he := hJ7
    replace hp := hpJ7
    refine lv_if_eq (tgt := 44) hx hb dX5_needs_24 (by decide) (fun c8 => ?_) (fun c8 => ?_)
    · replace hp := hp.1 c8
      replace he := he.trans (if_pos c8)
      refine lv_iconst (v := 0) hx hb dX5_needs_44 (by decide) ?_
      subst he
      exact kont7 (Or.inl rfl) _ _ hP hD hS _ (lv_sub hl [] rfl)
    · replace hp := hp.2 c8
      replace he := he.trans (if_neg c8)
      refine lv_aload_n hx hb dX5_needs_27 rfl (lv_at hl 0 rfl) ?_
      refine va_get (D := D) (ci := 5) (v := .ref m1) (C := RX5) (T := TX5) (N := 16) hx hb hts (by decide +kernel) hown hK hP 0 rfl rfl 0 (by decide) (hts (.fieldLink RX5 7 "AlarmgroveModel" "needs" "[I") (by decide +kernel)) (fun _ h9 => h9) rfl dX5_needs_28 ?_
      refine lv_iload_n hx hb dX5_needs_31 rfl (lv_at hl 1 rfl) ?_
      have h9 := hp.1
      replace hp := hp.2
      refine va_iald hx hb hK hP 1 0 rfl rfl h9 dX5_needs_32 ?_
      refine lv_iload_n hx hb dX5_needs_33 rfl (lv_at hl 2 rfl) ?_
      refine k_calli (S := Unit) (wc := ([] : va_W)) (wr := (W_X5 cI m0 m1 m2 m3 m4 m5 m6 m7 m8 m9 m10 m11 mr mc me mw u6_0 mn mu ms mt md mz mi mk mo mj ml)) (w1 := fun u => ([] : va_W)) (fun u => (W_X5 cI m0 m1 m2 m3 m4 m5 m6 m7 m8 m9 m10 m11 mr mc me mw u6_0 mn mu ms mt md mz mi mk mo mj ml)) hP hK hD hN hS hA [] [0, 1, 2, 3, 4, 5, 6, 7, 8, 9, 10, 11] rfl rfl (by decide) (by decide) (by decide) [0, 1, 2, 3, 4, 5, 6, 7, 8, 9, 10, 11] (by decide) (fun _ => rfl) (fun hg => va_runS (As := [.int (mn (a1).toNatClampNeg), .int a2]) (rest := []) ⟨hx, hb, hml, hown, hts⟩ (c_X5_has l D cI _ (mn (a1).toNatClampNeg) a2) (va_cwS 2 hts gX5_needs_X5_has rfl rfl rfl (by decide +kernel) ⟨Nat.le_of_ble_eq_true rfl, Nat.le_of_ble_eq_true rfl⟩) ⟨PW.blind, fun U hU hW => ⟨rfl, hg U hU hW⟩⟩ rfl rfl hl.1 rfl (lv_room (Nat.le_of_ble_eq_true rfl)) dX5_needs_34 ⟨Nat.le_of_ble_eq_true rfl, Nat.le_of_ble_eq_true rfl⟩) (fun r10 u H locs hw hP hD hS => ?_)
      obtain ⟨hw, hb10⟩ := hw
      subst hw
      refine lv_if_eq (tgt := 44) hx hb dX5_needs_37 (by decide) (fun c11 => ?_) (fun c11 => ?_)
      · replace hp := hp.1 c11
        replace he := he.trans (if_pos c11)
        refine lv_iconst (v := 0) hx hb dX5_needs_44 (by decide) ?_
        subst he
        exact kont7 (Or.inl rfl) _ _ hP hD hS _ (lv_sub hl [] rfl)
      · replace hp := hp.2 c11
        replace he := he.trans (if_neg c11)
        refine lv_iconst (v := 1) hx hb dX5_needs_40 (by decide) ?_
        refine lv_goto (tgt := 45) hx hb dX5_needs_41 (by decide) ?_
        subst he
        exact kont7 (Or.inr rfl) _ _ hP hD hS _ (lv_sub hl [] rfl)
  replace he := hJ2
  replace hp := hpJ2
  refine lv_if_eq (tgt := 19) hx hb dX5_needs_5 (by decide) (fun c3 => ?_) (fun c3 => ?_)
  · replace hp := hp.1 c3
    replace he := he.trans (if_pos c3)
    refine lv_iconst (v := 0) hx hb dX5_needs_19 (by decide) ?_
    subst he
    exact kont2 (Or.inl rfl) _ _ hP hD hS _ (lv_sub hl [0, 1, 2] rfl)
  · replace hp := hp.2 c3
    replace he := he.trans (if_neg c3)
    refine lv_iload_n hx hb dX5_needs_8 rfl (lv_at hl 2 rfl) ?_
    refine k_calli (S := Unit) (wc := ([] : va_W)) (wr := (W_X5 cI m0 m1 m2 m3 m4 m5 m6 m7 m8 m9 m10 m11 mr mc me mw mh mn mu ms mt md mz mi mk mo mj ml)) (w1 := fun u => ([] : va_W)) (fun u => (W_X5 cI m0 m1 m2 m3 m4 m5 m6 m7 m8 m9 m10 m11 mr mc me mw mh mn mu ms mt md mz mi mk mo mj ml)) hP hK hD hN hS hA [] [0, 1, 2, 3, 4, 5, 6, 7, 8, 9, 10, 11] rfl rfl (by decide) (by decide) (by decide) [0, 1, 2, 3, 4, 5, 6, 7, 8, 9, 10, 11] (by decide) (fun _ => rfl) (fun hg => va_runS (As := [.int a2]) (rest := [.ref m0]) ⟨hx, hb, hml, hown, hts⟩ (c_X5_isNode l D cI _ a2) (va_cwS 1 hts gX5_needs_X5_isNode rfl rfl rfl (by decide +kernel) ⟨Nat.le_of_ble_eq_true rfl, Nat.le_of_ble_eq_true rfl⟩) ⟨PW.blind, fun U hU hW => ⟨rfl, hg U hU hW⟩⟩ rfl rfl hl.1 rfl (lv_room (Nat.le_of_ble_eq_true rfl)) dX5_needs_9 ⟨Nat.le_of_ble_eq_true rfl, Nat.le_of_ble_eq_true rfl⟩) (fun r4 u H locs hw hP hD hS => ?_)
    obtain ⟨hw, hb4⟩ := hw
    subst hw
    refine lv_if_eq (tgt := 19) hx hb dX5_needs_12 (by decide) (fun c5 => ?_) (fun c5 => ?_)
    · replace hp := hp.1 c5
      replace he := he.trans (if_pos c5)
      refine lv_iconst (v := 0) hx hb dX5_needs_19 (by decide) ?_
      subst he
      exact kont2 (Or.inl rfl) _ _ hP hD hS _ (lv_sub hl [0, 1, 2] rfl)
    · replace hp := hp.2 c5
      replace he := he.trans (if_neg c5)
      refine lv_iconst (v := 1) hx hb dX5_needs_15 (by decide) ?_
      refine lv_goto (tgt := 20) hx hb dX5_needs_16 (by decide) ?_
      subst he
      exact kont2 (Or.inr rfl) _ _ hP hD hS _ (lv_sub hl [0, 1, 2] rfl)
abbrev rm_X5_dependsOn : Room := { frames := 1, cells := 0, slots := 0, locals := 22 }
abbrev Q_X5_dependsOn (D : va_G) (cI : ClassId) (m0 m1 m2 m3 m4 m5 m6 m7 m8 m9 m10 m11 : Nat) (mr : Int32) (mc : Int32) (me : Int32) (mw : Int32) (mh : Int32) (mn : AA) (mu : AA) (ms : AA) (mt : AA) (md : AA) (mz : AA) (mi : AA) (mk : AA) (mo : AA) (mj : AA) (ml : AA) (a1 a2 : Int32) (A : Nat → Prop) : Array Value → State → Outcome → State → Prop := va_Qi (S := Int32) (fun r u => f_X5_dependsOn mu a1 a2 = (r, u) ∧ (r = 0 ∨ r = 1)) (fun u t => QW D [(cI, .int)] A (W_X5 cI m0 m1 m2 m3 m4 m5 m6 m7 m8 m9 m10 m11 mr mc me mw u mn mu ms mt md mz mi mk mo mj ml) t) A
set_option maxHeartbeats 4000000 in
set_option maxRecDepth 100000 in
theorem c_X5_dependsOn (l : Launch)  (D : va_G) (cI : ClassId) (m0 m1 m2 m3 m4 m5 m6 m7 m8 m9 m10 m11 : Nat) (mr : Int32) (mc : Int32) (me : Int32) (mw : Int32) (mh : Int32) (mn : AA) (mu : AA) (ms : AA) (mt : AA) (md : AA) (mz : AA) (mi : AA) (mk : AA) (mo : AA) (mj : AA) (ml : AA) (sz : Nat) (a1 a2 : Int32) (hp : p_X5_dependsOn mu a1 a2) : Met l yX5_dependsOn wsX5_dependsOn rm_X5_dependsOn (va_Pc [.ref m0, .int a1, .int a2] (PW D [(cI, .int)] sz (W_X5 cI m0 m1 m2 m3 m4 m5 m6 m7 m8 m9 m10 m11 mr mc me mw mh mn mu ms mt md mz mi mk mo mj ml))) (Q_X5_dependsOn D cI m0 m1 m2 m3 m4 m5 m6 m7 m8 m9 m10 m11 mr mc me mw mh mn mu ms mt md mz mi mk mo mj ml a1 a2 (va_A (W_X5 cI m0 m1 m2 m3 m4 m5 m6 m7 m8 m9 m10 m11 mr mc me mw mh mn mu ms mt md mz mi mk mo mj ml) sz)) 0 0 (va_A (W_X5 cI m0 m1 m2 m3 m4 m5 m6 m7 m8 m9 m10 m11 mr mc me mw mh mn mu ms mt md mz mi mk mo mj ml) sz) := by
  refine Met.ofW (cc := cX5_dependsOn) (maxL := 3) (ret := (some .boolean)) (by decide) rfl ?_
  intro p e s m args below meth c s₁ B hml hv
  obtain ⟨rfl, hsz, hP, hK, hD0, hN⟩ := hv
  have hx := B.exec
  have hb := B.bytes
  have hr := B.returns
  have hts := atoms_spec (ws := wsX5_dependsOn) B.pre
  have hown : s.vm.findClass RX5 = some m.cls := findClass_of_methodNamed B.named
  have hlocks := B.notSynchronized
  subst hsz
  have hD := hD0.self (sz := s.heap.size)
  generalize hAe : va_A (W_X5 cI m0 m1 m2 m3 m4 m5 m6 m7 m8 m9 m10 m11 mr mc me mw mh mn mu ms mt md mz mi mk mo mj ml) s.heap.size = A at hD ⊢
  have hA : ∀ q : Nat, s.heap.size ≤ q → A q := fun q h => by rw [← hAe]; exact Or.inr h
  have hS : va_S A s.heap s.heap [] := va_S.rf
  have hl := lv_entry ([.ref m0, .int a1, .int a2]) (n := 3) (Nat.le_of_ble_eq_true rfl)
  rw [lg_entry_eq]
  generalize (lg_sl ([.ref m0, .int a1, .int a2]) ++ List.replicate (3 - (lg_sl ([.ref m0, .int a1, .int a2])).length) Slot.unset).toArray = ls at hl ⊢
  have hl : lv_has ls 3 [(0, .ref m0), (1, .int a1), (2, .int a2)] := hl
  have he := f_X5_dependsOn.eq_1 mu a1 a2
  replace hp := Eq.mp (p_X5_dependsOn.eq_1 ..) hp
  refine lv_aload_n hx hb dX5_dependsOn_0 rfl (lv_at hl 0 rfl) ?_
  refine lv_iload_n hx hb dX5_dependsOn_1 rfl (lv_at hl 1 rfl) ?_
  refine k_calli (S := Unit) (wc := ([] : va_W)) (wr := (W_X5 cI m0 m1 m2 m3 m4 m5 m6 m7 m8 m9 m10 m11 mr mc me mw mh mn mu ms mt md mz mi mk mo mj ml)) (w1 := fun u => ([] : va_W)) (fun u => (W_X5 cI m0 m1 m2 m3 m4 m5 m6 m7 m8 m9 m10 m11 mr mc me mw mh mn mu ms mt md mz mi mk mo mj ml)) hP hK hD hN hS hA [] [0, 1, 2, 3, 4, 5, 6, 7, 8, 9, 10, 11] rfl rfl (by decide) (by decide) (by decide) [0, 1, 2, 3, 4, 5, 6, 7, 8, 9, 10, 11] (by decide) (fun _ => rfl) (fun hg => va_runS (As := [.int a1]) (rest := [.ref m0]) ⟨hx, hb, hml, hown, hts⟩ (c_X5_isNode l D cI _ a1) (va_cwS 1 hts gX5_dependsOn_X5_isNode rfl rfl rfl (by decide +kernel) ⟨Nat.le_of_ble_eq_true rfl, Nat.le_of_ble_eq_true rfl⟩) ⟨PW.blind, fun U hU hW => ⟨rfl, hg U hU hW⟩⟩ rfl rfl hl.1 rfl (lv_room (Nat.le_of_ble_eq_true rfl)) dX5_dependsOn_2 ⟨Nat.le_of_ble_eq_true rfl, Nat.le_of_ble_eq_true rfl⟩) (fun r1 u H locs hw hP hD hS => ?_)
  obtain ⟨hw, hb1⟩ := hw
  subst hw
  obtain ⟨j2, hJ2⟩ : ∃ z : Int32, z = (if (f_X5_isNode a1) = 0 then (0 : Int32) else (if (f_X5_isNode a2) = 0 then (0 : Int32) else (1 : Int32))) := ⟨_, rfl⟩
  rw [← hJ2] at he
  try dsimp only at he
  have hpJ2 := hp.1
  replace hp := hp.2 _  hJ2.symm
  have kont2 : (j2 = 0 ∨ j2 = 1) → ∀ (H : Heap) (locs : List Loc), va_P D vwCl (W_X5 cI m0 m1 m2 m3 m4 m5 m6 m7 m8 m9 m10 m11 mr mc me mw mh mn mu ms mt md mz mi mk mo mj ml) H → va_D A (W_X5 cI m0 m1 m2 m3 m4 m5 m6 m7 m8 m9 m10 m11 mr mc me mw mh mn mu ms mt md mz mi mk mo mj ml) → va_S A s.heap H locs → ∀ ls : Array Slot, lv_has ls 3 [(0, .ref m0), (1, .int a1), (2, .int a2)] → W p l e (headSpec wsX5_dependsOn rm_X5_dependsOn).room s m ([.ref m0, .int a1, .int a2] : List Value).toArray below meth c H locs 0 0 (MQ below (Q_X5_dependsOn D cI m0 m1 m2 m3 m4 m5 m6 m7 m8 m9 m10 m11 mr mc me mw mh mn mu ms mt md mz mi mk mo mj ml a1 a2 A) ([.ref m0, .int a1, .int a2] : List Value).toArray s 0 0 A) (F0 m 20 ls [.int j2, .ref m0]) := by
    intro hb2 H locs hP hD hS ls hl
    refine lv_iconst (v := 1) hx hb dX5_dependsOn_20 (by decide) ?_
    refine k_calli (S := Int32) (wc := (W_X5 cI m0 m1 m2 m3 m4 m5 m6 m7 m8 m9 m10 m11 mr mc me mw mh mn mu ms mt md mz mi mk mo mj ml)) (wr := ([] : va_W)) (w1 := fun u => (W_X5 cI m0 m1 m2 m3 m4 m5 m6 m7 m8 m9 m10 m11 mr mc me mw u mn mu ms mt md mz mi mk mo mj ml)) (fun u => (W_X5 cI m0 m1 m2 m3 m4 m5 m6 m7 m8 m9 m10 m11 mr mc me mw u mn mu ms mt md mz mi mk mo mj ml)) hP hK hD hN hS hA [0, 1, 2, 3, 4, 5, 6, 7, 8, 9, 10, 11] [] rfl rfl (by decide) (by decide) (by decide) [0, 1, 2, 3, 4, 5, 6, 7, 8, 9, 10, 11] (by decide) (fun _ => rfl) (fun hg => va_runV (As := [.int j2, .int 1]) (rest := []) ⟨hx, hb, hml, hown, hts⟩ (c_X5_goes l D cI m0 m1 m2 m3 m4 m5 m6 m7 m8 m9 m10 m11 mr mc me mw mh mn mu ms mt md mz mi mk mo mj ml _ j2 1) (cwV 2 hts gX5_dependsOn_X5_goes rfl rfl rfl (by decide +kernel) ⟨Nat.le_of_ble_eq_true rfl, Nat.le_of_ble_eq_true rfl⟩) ⟨PW.blind, va_recv hK hP (ci := 5) (q0 := 0) rfl rfl, fun U hU hW => ⟨rfl, hg U hU hW⟩⟩ rfl rfl hl.1 rfl (lv_room (Nat.le_of_ble_eq_true rfl)) dX5_dependsOn_21 ⟨Nat.le_of_ble_eq_true rfl, Nat.le_of_ble_eq_true rfl⟩) (fun r6 u H locs hw hP hD hS => ?_)
    obtain ⟨u6_0, rfl⟩ : ∃ z, z = u := ⟨_, rfl⟩
    obtain ⟨hw, hb6⟩ := hw
    rw [hw] at he
    try dsimp only at he
    replace hp := hp r6 u6_0 hw
    have hP : va_P D vwCl (W_X5 cI m0 m1 m2 m3 m4 m5 m6 m7 m8 m9 m10 m11 mr mc me mw u6_0 mn mu ms mt md mz mi mk mo mj ml) H := hP
    have hD : va_D A (W_X5 cI m0 m1 m2 m3 m4 m5 m6 m7 m8 m9 m10 m11 mr mc me mw u6_0 mn mu ms mt md mz mi mk mo mj ml) := hD
    obtain ⟨j7, hJ7⟩ : ∃ z : Int32, z = (if r6 = 0 then (0 : Int32) else (if (f_X5_has (mu (a1).toNatClampNeg) a2) = 0 then (0 : Int32) else (1 : Int32))) := ⟨_, rfl⟩
    rw [← hJ7] at he
    try dsimp only at he
    have hpJ7 := hp.1
    replace hp := hp.2 _  hJ7.symm
    have kont7 : (j7 = 0 ∨ j7 = 1) → ∀ (H : Heap) (locs : List Loc), va_P D vwCl (W_X5 cI m0 m1 m2 m3 m4 m5 m6 m7 m8 m9 m10 m11 mr mc me mw u6_0 mn mu ms mt md mz mi mk mo mj ml) H → va_D A (W_X5 cI m0 m1 m2 m3 m4 m5 m6 m7 m8 m9 m10 m11 mr mc me mw u6_0 mn mu ms mt md mz mi mk mo mj ml) → va_S A s.heap H locs → ∀ ls : Array Slot, lv_has ls 3 [] → W p l e (headSpec wsX5_dependsOn rm_X5_dependsOn).room s m ([.ref m0, .int a1, .int a2] : List Value).toArray below meth c H locs 0 0 (MQ below (Q_X5_dependsOn D cI m0 m1 m2 m3 m4 m5 m6 m7 m8 m9 m10 m11 mr mc me mw mh mn mu ms mt md mz mi mk mo mj ml a1 a2 A) ([.ref m0, .int a1, .int a2] : List Value).toArray s 0 0 A) (F0 m 45 ls [.int j7]) := by
      intro hb7 H locs hP hD hS ls hl
      exact W.zret (ty := .boolean) (v := j7) hx hb hr (by rcases hb7 with h9 | h9 <;> rw [h9] <;> rfl) (fun t ht hW => ⟨⟨j7, u6_0, rfl, ⟨he, hb7⟩, by rw [ht]; exact hP, va_K.moved hW.alike hK, hD⟩, hS.F ht⟩) hS.2.2 dX5_dependsOn_45
    replace he := hJ7
    replace hp := hpJ7
    refine lv_if_eq (tgt := 44) hx hb dX5_dependsOn_24 (by decide) (fun c8 => ?_) (fun c8 => ?_)
    · replace hp := hp.1 c8
      replace he := he.trans (if_pos c8)
      refine lv_iconst (v := 0) hx hb dX5_dependsOn_44 (by decide) ?_
      subst he
      exact kont7 (Or.inl rfl) _ _ hP hD hS _ (lv_sub hl [] rfl)
    · replace hp := hp.2 c8
      replace he := he.trans (if_neg c8)
      refine lv_aload_n hx hb dX5_dependsOn_27 rfl (lv_at hl 0 rfl) ?_
      refine va_get (D := D) (ci := 5) (v := .ref m2) (C := RX5) (T := TX5) (N := 16) hx hb hts (by decide +kernel) hown hK hP 0 rfl rfl 1 (by decide) (hts (.fieldLink RX5 13 "AlarmgroveModel" "under" "[I") (by decide +kernel)) (fun _ h9 => h9) rfl dX5_dependsOn_28 ?_
      refine lv_iload_n hx hb dX5_dependsOn_31 rfl (lv_at hl 1 rfl) ?_
      have h9 := hp.1
      replace hp := hp.2
      refine va_iald hx hb hK hP 2 0 rfl rfl h9 dX5_dependsOn_32 ?_
      refine lv_iload_n hx hb dX5_dependsOn_33 rfl (lv_at hl 2 rfl) ?_
      refine k_calli (S := Unit) (wc := ([] : va_W)) (wr := (W_X5 cI m0 m1 m2 m3 m4 m5 m6 m7 m8 m9 m10 m11 mr mc me mw u6_0 mn mu ms mt md mz mi mk mo mj ml)) (w1 := fun u => ([] : va_W)) (fun u => (W_X5 cI m0 m1 m2 m3 m4 m5 m6 m7 m8 m9 m10 m11 mr mc me mw u6_0 mn mu ms mt md mz mi mk mo mj ml)) hP hK hD hN hS hA [] [0, 1, 2, 3, 4, 5, 6, 7, 8, 9, 10, 11] rfl rfl (by decide) (by decide) (by decide) [0, 1, 2, 3, 4, 5, 6, 7, 8, 9, 10, 11] (by decide) (fun _ => rfl) (fun hg => va_runS (As := [.int (mu (a1).toNatClampNeg), .int a2]) (rest := []) ⟨hx, hb, hml, hown, hts⟩ (c_X5_has l D cI _ (mu (a1).toNatClampNeg) a2) (va_cwS 2 hts gX5_dependsOn_X5_has rfl rfl rfl (by decide +kernel) ⟨Nat.le_of_ble_eq_true rfl, Nat.le_of_ble_eq_true rfl⟩) ⟨PW.blind, fun U hU hW => ⟨rfl, hg U hU hW⟩⟩ rfl rfl hl.1 rfl (lv_room (Nat.le_of_ble_eq_true rfl)) dX5_dependsOn_34 ⟨Nat.le_of_ble_eq_true rfl, Nat.le_of_ble_eq_true rfl⟩) (fun r10 u H locs hw hP hD hS => ?_)
      obtain ⟨hw, hb10⟩ := hw
      subst hw
      refine lv_if_eq (tgt := 44) hx hb dX5_dependsOn_37 (by decide) (fun c11 => ?_) (fun c11 => ?_)
      · replace hp := hp.1 c11
        replace he := he.trans (if_pos c11)
        refine lv_iconst (v := 0) hx hb dX5_dependsOn_44 (by decide) ?_
        subst he
        exact kont7 (Or.inl rfl) _ _ hP hD hS _ (lv_sub hl [] rfl)
      · replace hp := hp.2 c11
        replace he := he.trans (if_neg c11)
        refine lv_iconst (v := 1) hx hb dX5_dependsOn_40 (by decide) ?_
        refine lv_goto (tgt := 45) hx hb dX5_dependsOn_41 (by decide) ?_
        subst he
        exact kont7 (Or.inr rfl) _ _ hP hD hS _ (lv_sub hl [] rfl)
  replace he := hJ2
  replace hp := hpJ2
  refine lv_if_eq (tgt := 19) hx hb dX5_dependsOn_5 (by decide) (fun c3 => ?_) (fun c3 => ?_)
  · replace hp := hp.1 c3
    replace he := he.trans (if_pos c3)
    refine lv_iconst (v := 0) hx hb dX5_dependsOn_19 (by decide) ?_
    subst he
    exact kont2 (Or.inl rfl) _ _ hP hD hS _ (lv_sub hl [0, 1, 2] rfl)
  · replace hp := hp.2 c3
    replace he := he.trans (if_neg c3)
    refine lv_iload_n hx hb dX5_dependsOn_8 rfl (lv_at hl 2 rfl) ?_
    refine k_calli (S := Unit) (wc := ([] : va_W)) (wr := (W_X5 cI m0 m1 m2 m3 m4 m5 m6 m7 m8 m9 m10 m11 mr mc me mw mh mn mu ms mt md mz mi mk mo mj ml)) (w1 := fun u => ([] : va_W)) (fun u => (W_X5 cI m0 m1 m2 m3 m4 m5 m6 m7 m8 m9 m10 m11 mr mc me mw mh mn mu ms mt md mz mi mk mo mj ml)) hP hK hD hN hS hA [] [0, 1, 2, 3, 4, 5, 6, 7, 8, 9, 10, 11] rfl rfl (by decide) (by decide) (by decide) [0, 1, 2, 3, 4, 5, 6, 7, 8, 9, 10, 11] (by decide) (fun _ => rfl) (fun hg => va_runS (As := [.int a2]) (rest := [.ref m0]) ⟨hx, hb, hml, hown, hts⟩ (c_X5_isNode l D cI _ a2) (va_cwS 1 hts gX5_dependsOn_X5_isNode rfl rfl rfl (by decide +kernel) ⟨Nat.le_of_ble_eq_true rfl, Nat.le_of_ble_eq_true rfl⟩) ⟨PW.blind, fun U hU hW => ⟨rfl, hg U hU hW⟩⟩ rfl rfl hl.1 rfl (lv_room (Nat.le_of_ble_eq_true rfl)) dX5_dependsOn_9 ⟨Nat.le_of_ble_eq_true rfl, Nat.le_of_ble_eq_true rfl⟩) (fun r4 u H locs hw hP hD hS => ?_)
    obtain ⟨hw, hb4⟩ := hw
    subst hw
    refine lv_if_eq (tgt := 19) hx hb dX5_dependsOn_12 (by decide) (fun c5 => ?_) (fun c5 => ?_)
    · replace hp := hp.1 c5
      replace he := he.trans (if_pos c5)
      refine lv_iconst (v := 0) hx hb dX5_dependsOn_19 (by decide) ?_
      subst he
      exact kont2 (Or.inl rfl) _ _ hP hD hS _ (lv_sub hl [0, 1, 2] rfl)
    · replace hp := hp.2 c5
      replace he := he.trans (if_neg c5)
      refine lv_iconst (v := 1) hx hb dX5_dependsOn_15 (by decide) ?_
      refine lv_goto (tgt := 20) hx hb dX5_dependsOn_16 (by decide) ?_
      subst he
      exact kont2 (Or.inr rfl) _ _ hP hD hS _ (lv_sub hl [0, 1, 2] rfl)
abbrev rm_X5_height : Room := { frames := 1, cells := 0, slots := 0, locals := 22 }
abbrev Q_X5_height (D : va_G) (cI : ClassId) (m0 m1 m2 m3 m4 m5 m6 m7 m8 m9 m10 m11 : Nat) (mr : Int32) (mc : Int32) (me : Int32) (mw : Int32) (mh : Int32) (mn : AA) (mu : AA) (ms : AA) (mt : AA) (md : AA) (mz : AA) (mi : AA) (mk : AA) (mo : AA) (mj : AA) (ml : AA) (a1 : Int32) (A : Nat → Prop) : Array Value → State → Outcome → State → Prop := va_Qi (S := Int32) (fun r u => f_X5_height mn a1 = (r, u)) (fun u t => QW D [(cI, .int)] A (W_X5 cI m0 m1 m2 m3 m4 m5 m6 m7 m8 m9 m10 m11 mr mc me mw u mn mu ms mt md mz mi mk mo mj ml) t) A
set_option maxHeartbeats 4000000 in
set_option maxRecDepth 100000 in
theorem c_X5_height (l : Launch)  (D : va_G) (cI : ClassId) (m0 m1 m2 m3 m4 m5 m6 m7 m8 m9 m10 m11 : Nat) (mr : Int32) (mc : Int32) (me : Int32) (mw : Int32) (mh : Int32) (mn : AA) (mu : AA) (ms : AA) (mt : AA) (md : AA) (mz : AA) (mi : AA) (mk : AA) (mo : AA) (mj : AA) (ml : AA) (sz : Nat) (a1 : Int32) (hp : p_X5_height mn a1) : Met l yX5_height wsX5_height rm_X5_height (va_Pc [.ref m0, .int a1] (PW D [(cI, .int)] sz (W_X5 cI m0 m1 m2 m3 m4 m5 m6 m7 m8 m9 m10 m11 mr mc me mw mh mn mu ms mt md mz mi mk mo mj ml))) (Q_X5_height D cI m0 m1 m2 m3 m4 m5 m6 m7 m8 m9 m10 m11 mr mc me mw mh mn mu ms mt md mz mi mk mo mj ml a1 (va_A (W_X5 cI m0 m1 m2 m3 m4 m5 m6 m7 m8 m9 m10 m11 mr mc me mw mh mn mu ms mt md mz mi mk mo mj ml) sz)) 0 0 (va_A (W_X5 cI m0 m1 m2 m3 m4 m5 m6 m7 m8 m9 m10 m11 mr mc me mw mh mn mu ms mt md mz mi mk mo mj ml) sz) := by
  refine Met.ofW (cc := cX5_height) (maxL := 6) (ret := (some .int)) (by decide) rfl ?_
  intro p e s m args below meth c s₁ B hml hv
  obtain ⟨rfl, hsz, hP, hK, hD0, hN⟩ := hv
  have hx := B.exec
  have hb := B.bytes
  have hr := B.returns
  have hts := atoms_spec (ws := wsX5_height) B.pre
  have hown : s.vm.findClass RX5 = some m.cls := findClass_of_methodNamed B.named
  have hlocks := B.notSynchronized
  subst hsz
  have hD := hD0.self (sz := s.heap.size)
  generalize hAe : va_A (W_X5 cI m0 m1 m2 m3 m4 m5 m6 m7 m8 m9 m10 m11 mr mc me mw mh mn mu ms mt md mz mi mk mo mj ml) s.heap.size = A at hD ⊢
  have hA : ∀ q : Nat, s.heap.size ≤ q → A q := fun q h => by rw [← hAe]; exact Or.inr h
  have hS : va_S A s.heap s.heap [] := va_S.rf
  have hl := lv_entry ([.ref m0, .int a1]) (n := 6) (Nat.le_of_ble_eq_true rfl)
  rw [lg_entry_eq]
  generalize (lg_sl ([.ref m0, .int a1]) ++ List.replicate (6 - (lg_sl ([.ref m0, .int a1])).length) Slot.unset).toArray = ls at hl ⊢
  have hl : lv_has ls 6 [(0, .ref m0), (1, .int a1)] := hl
  have he := f_X5_height.eq_1 mn a1
  replace hp := Eq.mp (p_X5_height.eq_1 ..) hp
  refine lv_aload_n hx hb dX5_height_0 rfl (lv_at hl 0 rfl) ?_
  refine lv_iload_n hx hb dX5_height_1 rfl (lv_at hl 1 rfl) ?_
  refine k_calli (S := Unit) (wc := ([] : va_W)) (wr := (W_X5 cI m0 m1 m2 m3 m4 m5 m6 m7 m8 m9 m10 m11 mr mc me mw mh mn mu ms mt md mz mi mk mo mj ml)) (w1 := fun u => ([] : va_W)) (fun u => (W_X5 cI m0 m1 m2 m3 m4 m5 m6 m7 m8 m9 m10 m11 mr mc me mw mh mn mu ms mt md mz mi mk mo mj ml)) hP hK hD hN hS hA [] [0, 1, 2, 3, 4, 5, 6, 7, 8, 9, 10, 11] rfl rfl (by decide) (by decide) (by decide) [0, 1, 2, 3, 4, 5, 6, 7, 8, 9, 10, 11] (by decide) (fun _ => rfl) (fun hg => va_runS (As := [.int a1]) (rest := [.ref m0]) ⟨hx, hb, hml, hown, hts⟩ (c_X5_isNode l D cI _ a1) (va_cwS 1 hts gX5_height_X5_isNode rfl rfl rfl (by decide +kernel) ⟨Nat.le_of_ble_eq_true rfl, Nat.le_of_ble_eq_true rfl⟩) ⟨PW.blind, fun U hU hW => ⟨rfl, hg U hU hW⟩⟩ rfl rfl hl.1 rfl (lv_room (Nat.le_of_ble_eq_true rfl)) dX5_height_2 ⟨Nat.le_of_ble_eq_true rfl, Nat.le_of_ble_eq_true rfl⟩) (fun r1 u H locs hw hP hD hS => ?_)
  obtain ⟨hw, hb1⟩ := hw
  subst hw
  refine lv_iconst (v := 1) hx hb dX5_height_5 (by decide) ?_
  refine k_calli (S := Int32) (wc := (W_X5 cI m0 m1 m2 m3 m4 m5 m6 m7 m8 m9 m10 m11 mr mc me mw mh mn mu ms mt md mz mi mk mo mj ml)) (wr := ([] : va_W)) (w1 := fun u => (W_X5 cI m0 m1 m2 m3 m4 m5 m6 m7 m8 m9 m10 m11 mr mc me mw u mn mu ms mt md mz mi mk mo mj ml)) (fun u => (W_X5 cI m0 m1 m2 m3 m4 m5 m6 m7 m8 m9 m10 m11 mr mc me mw u mn mu ms mt md mz mi mk mo mj ml)) hP hK hD hN hS hA [0, 1, 2, 3, 4, 5, 6, 7, 8, 9, 10, 11] [] rfl rfl (by decide) (by decide) (by decide) [0, 1, 2, 3, 4, 5, 6, 7, 8, 9, 10, 11] (by decide) (fun _ => rfl) (fun hg => va_runV (As := [.int (f_X5_isNode a1), .int 1]) (rest := []) ⟨hx, hb, hml, hown, hts⟩ (c_X5_goes l D cI m0 m1 m2 m3 m4 m5 m6 m7 m8 m9 m10 m11 mr mc me mw mh mn mu ms mt md mz mi mk mo mj ml _ (f_X5_isNode a1) 1) (cwV 2 hts gX5_height_X5_goes rfl rfl rfl (by decide +kernel) ⟨Nat.le_of_ble_eq_true rfl, Nat.le_of_ble_eq_true rfl⟩) ⟨PW.blind, va_recv hK hP (ci := 5) (q0 := 0) rfl rfl, fun U hU hW => ⟨rfl, hg U hU hW⟩⟩ rfl rfl hl.1 rfl (lv_room (Nat.le_of_ble_eq_true rfl)) dX5_height_6 ⟨Nat.le_of_ble_eq_true rfl, Nat.le_of_ble_eq_true rfl⟩) (fun r2 u H locs hw hP hD hS => ?_)
  obtain ⟨u2_0, rfl⟩ : ∃ z, z = u := ⟨_, rfl⟩
  obtain ⟨hw, hb2⟩ := hw
  rw [hw] at he
  try dsimp only at he
  replace hp := hp r2 u2_0 hw
  have hP : va_P D vwCl (W_X5 cI m0 m1 m2 m3 m4 m5 m6 m7 m8 m9 m10 m11 mr mc me mw u2_0 mn mu ms mt md mz mi mk mo mj ml) H := hP
  have hD : va_D A (W_X5 cI m0 m1 m2 m3 m4 m5 m6 m7 m8 m9 m10 m11 mr mc me mw u2_0 mn mu ms mt md mz mi mk mo mj ml) := hD
  refine lv_if_ne (tgt := 14) hx hb dX5_height_9 (by decide) (fun c3 => ?_) (fun c3 => ?_)
  · replace hp := hp.2 c3
    replace he := he.trans (if_neg c3)
    refine lv_iconst (v := 1) hx hb dX5_height_14 (by decide) ?_
    refine lv_iload_n hx hb dX5_height_15 rfl (lv_at hl 1 rfl) ?_
    refine lv_ishl hx hb dX5_height_16 ?_
    refine lv_istore_n (lv' := [(2, .int (1 <<< (a1 &&& 31))), (0, .ref m0), (1, .int a1)]) hx hb dX5_height_17 rfl hl (by decide) rfl (fun ls hl => ?_)
    refine lv_iconst (v := (-1)) hx hb dX5_height_18 (by decide) ?_
    refine lv_istore_n (lv' := [(3, .int (-1)), (2, .int (1 <<< (a1 &&& 31))), (0, .ref m0), (1, .int a1)]) hx hb dX5_height_19 rfl hl (by decide) rfl (fun ls hl => ?_)
    obtain ⟨⟨r4_v20_2, r4_v20_3⟩, hL4⟩ : ∃ z, z = f_X5_height_L20 mn 16 (1 <<< (a1 &&& 31)) ((-1) : Int32) := ⟨_, rfl⟩
    rw [← hL4] at he
    try dsimp only at he
    have hpL4 := hp.1
    replace hp := hp.2 _ _ hL4.symm
    have kont4 : ∀ (x4_v20_2 : Int32) (x4_v20_3 : Int32), (r4_v20_2, r4_v20_3) = (x4_v20_2, x4_v20_3) → ∀ (H : Heap) (locs : List Loc), va_P D vwCl (W_X5 cI m0 m1 m2 m3 m4 m5 m6 m7 m8 m9 m10 m11 mr mc me mw u2_0 mn mu ms mt md mz mi mk mo mj ml) H → va_D A (W_X5 cI m0 m1 m2 m3 m4 m5 m6 m7 m8 m9 m10 m11 mr mc me mw u2_0 mn mu ms mt md mz mi mk mo mj ml) → va_S A s.heap H locs → ∀ ls : Array Slot, lv_has ls 6 [(3, .int x4_v20_3)] → W p l e (headSpec wsX5_height rm_X5_height).room s m ([.ref m0, .int a1] : List Value).toArray below meth c H locs 0 0 (MQ below (Q_X5_height D cI m0 m1 m2 m3 m4 m5 m6 m7 m8 m9 m10 m11 mr mc me mw mh mn mu ms mt md mz mi mk mo mj ml a1 A) ([.ref m0, .int a1] : List Value).toArray s 0 0 A) (F0 m 77 ls []) := by
      intro x4_v20_2 x4_v20_3 hxe H locs hP hD hS ls hl
      simp only [Prod.mk.injEq] at hxe
      obtain ⟨rfl, rfl⟩ := hxe
      refine lv_iload_n hx hb dX5_height_77 rfl (lv_at hl 0 rfl) ?_
      exact W.iret (v := r4_v20_3) hx hb hr (fun t ht hW => ⟨⟨r4_v20_3, u2_0, rfl, he, by rw [ht]; exact hP, va_K.moved hW.alike hK, hD⟩, hS.F ht⟩) hS.2.2 dX5_height_78
    have loop4 : ∀ (n : Nat) (v20_2 : Int32) (v20_3 : Int32), p_X5_height_L20 mn n v20_2 v20_3 → (r4_v20_2, r4_v20_3) = f_X5_height_L20 mn n v20_2 v20_3 → ∀ (H : Heap) (locs : List Loc), va_P D vwCl (W_X5 cI m0 m1 m2 m3 m4 m5 m6 m7 m8 m9 m10 m11 mr mc me mw u2_0 mn mu ms mt md mz mi mk mo mj ml) H → va_D A (W_X5 cI m0 m1 m2 m3 m4 m5 m6 m7 m8 m9 m10 m11 mr mc me mw u2_0 mn mu ms mt md mz mi mk mo mj ml) → va_S A s.heap H locs → ∀ ls : Array Slot, lv_has ls 6 [(3, .int v20_3), (2, .int v20_2), (0, .ref m0)] → W p l e (headSpec wsX5_height rm_X5_height).room s m ([.ref m0, .int a1] : List Value).toArray below meth c H locs 0 0 (MQ below (Q_X5_height D cI m0 m1 m2 m3 m4 m5 m6 m7 m8 m9 m10 m11 mr mc me mw mh mn mu ms mt md mz mi mk mo mj ml a1 A) ([.ref m0, .int a1] : List Value).toArray s 0 0 A) (F0 m 20 ls []) := by
      intro n
      induction n with
      | zero => exact fun _ _ hp => hp.elim
      | succ n ih =>
        intro v20_2 v20_3 hp he H locs hP hD hS ls hl
        replace hp := Eq.mp (p_X5_height_L20.eq_2 ..) hp
        replace he := he.trans (f_X5_height_L20.eq_2 ..)
        refine lv_iload_n hx hb dX5_height_20 rfl (lv_at hl 1 rfl) ?_
        refine lv_if_eq (tgt := 77) hx hb dX5_height_21 (by decide) (fun c5 => ?_) (fun c5 => ?_)
        · replace hp := hp.1 c5
          replace he := he.trans (if_pos c5)
          exact kont4 _ _ he _ _ hP hD hS _ (lv_sub hl [0] rfl)
        · replace hp := hp.2 c5
          replace he := he.trans (if_neg c5)
          refine lv_iconst (v := 0) hx hb dX5_height_24 (by decide) ?_
          refine lv_istore (lv' := [(4, .int 0), (3, .int v20_3), (2, .int v20_2), (0, .ref m0)]) hx hb dX5_height_25 hl (by decide) rfl (fun ls hl => ?_)
          refine lv_iconst (v := 0) hx hb dX5_height_27 (by decide) ?_
          refine lv_istore (lv' := [(5, .int 0), (4, .int 0), (3, .int v20_3), (2, .int v20_2), (0, .ref m0)]) hx hb dX5_height_28 hl (by decide) rfl (fun ls hl => ?_)
          obtain ⟨⟨r6_v30_4, r6_v30_5⟩, hL6⟩ : ∃ z, z = f_X5_height_L30 mn v20_2 15 (0 : Int32) (0 : Int32) := ⟨_, rfl⟩
          rw [← hL6] at he
          try dsimp only at he
          have hpL6 := hp.1
          replace hp := hp.2 _ _ hL6.symm
          have kont6 : ∀ (x6_v30_4 : Int32) (x6_v30_5 : Int32), (r6_v30_4, r6_v30_5) = (x6_v30_4, x6_v30_5) → ∀ (H : Heap) (locs : List Loc), va_P D vwCl (W_X5 cI m0 m1 m2 m3 m4 m5 m6 m7 m8 m9 m10 m11 mr mc me mw u2_0 mn mu ms mt md mz mi mk mo mj ml) H → va_D A (W_X5 cI m0 m1 m2 m3 m4 m5 m6 m7 m8 m9 m10 m11 mr mc me mw u2_0 mn mu ms mt md mz mi mk mo mj ml) → va_S A s.heap H locs → ∀ ls : Array Slot, lv_has ls 6 [(4, .int x6_v30_4), (3, .int v20_3), (0, .ref m0)] → W p l e (headSpec wsX5_height rm_X5_height).room s m ([.ref m0, .int a1] : List Value).toArray below meth c H locs 0 0 (MQ below (Q_X5_height D cI m0 m1 m2 m3 m4 m5 m6 m7 m8 m9 m10 m11 mr mc me mw mh mn mu ms mt md mz mi mk mo mj ml a1 A) ([.ref m0, .int a1] : List Value).toArray s 0 0 A) (F0 m 68 ls []) := by
            intro x6_v30_4 x6_v30_5 hxe H locs hP hD hS ls hl
            simp only [Prod.mk.injEq] at hxe
            obtain ⟨rfl, rfl⟩ := hxe
            refine lv_iload hx hb dX5_height_68 (lv_at hl 0 rfl) ?_
            refine lv_istore_n (lv' := [(2, .int r6_v30_4), (4, .int r6_v30_4), (3, .int v20_3), (0, .ref m0)]) hx hb dX5_height_70 rfl hl (by decide) rfl (fun ls hl => ?_)
            refine lv_iinc (v := (v20_3 + 1)) (lv' := [(3, .int (v20_3 + 1)), (2, .int r6_v30_4), (4, .int r6_v30_4), (0, .ref m0)]) hx hb dX5_height_71 hl (k := 2) rfl rfl (by decide) rfl (fun ls hl => ?_)
            refine lv_goto (tgt := 20) hx hb dX5_height_74 (by decide) ?_
            exact ih _ _ hp he _ _ hP hD hS _ (lv_sub hl [0, 1, 3] rfl)
          have loop6 : ∀ (n : Nat) (v30_4 : Int32) (v30_5 : Int32), p_X5_height_L30 mn v20_2 n v30_4 v30_5 → (r6_v30_4, r6_v30_5) = f_X5_height_L30 mn v20_2 n v30_4 v30_5 → ∀ (H : Heap) (locs : List Loc), va_P D vwCl (W_X5 cI m0 m1 m2 m3 m4 m5 m6 m7 m8 m9 m10 m11 mr mc me mw u2_0 mn mu ms mt md mz mi mk mo mj ml) H → va_D A (W_X5 cI m0 m1 m2 m3 m4 m5 m6 m7 m8 m9 m10 m11 mr mc me mw u2_0 mn mu ms mt md mz mi mk mo mj ml) → va_S A s.heap H locs → ∀ ls : Array Slot, lv_has ls 6 [(5, .int v30_5), (4, .int v30_4), (3, .int v20_3), (2, .int v20_2), (0, .ref m0)] → W p l e (headSpec wsX5_height rm_X5_height).room s m ([.ref m0, .int a1] : List Value).toArray below meth c H locs 0 0 (MQ below (Q_X5_height D cI m0 m1 m2 m3 m4 m5 m6 m7 m8 m9 m10 m11 mr mc me mw mh mn mu ms mt md mz mi mk mo mj ml a1 A) ([.ref m0, .int a1] : List Value).toArray s 0 0 A) (F0 m 30 ls []) := by
            intro n
            induction n with
            | zero => exact fun _ _ hp => hp.elim
            | succ n ih =>
              intro v30_4 v30_5 hp he H locs hP hD hS ls hl
              replace hp := Eq.mp (p_X5_height_L30.eq_2 ..) hp
              replace he := he.trans (f_X5_height_L30.eq_2 ..)
              refine lv_iload hx hb dX5_height_30 (lv_at hl 0 rfl) ?_
              refine lv_bipush (v := 14) hx hb dX5_height_32 (by decide) ?_
              refine lv_icmp_ge (tgt := 68) hx hb dX5_height_34 (by decide) (fun c7 => ?_) (fun c7 => ?_)
              · replace hp := hp.1 c7
                replace he := he.trans (if_pos c7)
                exact kont6 _ _ he _ _ hP hD hS _ (lv_sub hl [1, 2, 4] rfl)
              · replace hp := hp.2 c7
                replace he := he.trans (if_neg c7)
                refine lv_iload hx hb dX5_height_37 (lv_at hl 1 rfl) ?_
                refine lv_iload_n hx hb dX5_height_39 rfl (lv_at hl 3 rfl) ?_
                refine lv_iload hx hb dX5_height_40 (lv_at hl 0 rfl) ?_
                refine k_calli (S := Unit) (wc := ([] : va_W)) (wr := (W_X5 cI m0 m1 m2 m3 m4 m5 m6 m7 m8 m9 m10 m11 mr mc me mw u2_0 mn mu ms mt md mz mi mk mo mj ml)) (w1 := fun u => ([] : va_W)) (fun u => (W_X5 cI m0 m1 m2 m3 m4 m5 m6 m7 m8 m9 m10 m11 mr mc me mw u2_0 mn mu ms mt md mz mi mk mo mj ml)) hP hK hD hN hS hA [] [0, 1, 2, 3, 4, 5, 6, 7, 8, 9, 10, 11] rfl rfl (by decide) (by decide) (by decide) [0, 1, 2, 3, 4, 5, 6, 7, 8, 9, 10, 11] (by decide) (fun _ => rfl) (fun hg => va_runS (As := [.int v20_2, .int v30_5]) (rest := [.int v30_4]) ⟨hx, hb, hml, hown, hts⟩ (c_X5_has l D cI _ v20_2 v30_5) (va_cwS 2 hts gX5_height_X5_has rfl rfl rfl (by decide +kernel) ⟨Nat.le_of_ble_eq_true rfl, Nat.le_of_ble_eq_true rfl⟩) ⟨PW.blind, fun U hU hW => ⟨rfl, hg U hU hW⟩⟩ rfl rfl hl.1 rfl (lv_room (Nat.le_of_ble_eq_true rfl)) dX5_height_42 ⟨Nat.le_of_ble_eq_true rfl, Nat.le_of_ble_eq_true rfl⟩) (fun r8 u H locs hw hP hD hS => ?_)
                obtain ⟨hw, hb8⟩ := hw
                subst hw
                obtain ⟨j9, hJ9⟩ : ∃ z : Int32, z = (if (f_X5_has v20_2 v30_5) = 0 then (0 : Int32) else (mn (v30_5).toNatClampNeg)) := ⟨_, rfl⟩
                rw [← hJ9] at he
                try dsimp only at he
                have hpJ9 := hp.1
                replace hp := hp.2 _  hJ9.symm
                have kont9 : ∀ (H : Heap) (locs : List Loc), va_P D vwCl (W_X5 cI m0 m1 m2 m3 m4 m5 m6 m7 m8 m9 m10 m11 mr mc me mw u2_0 mn mu ms mt md mz mi mk mo mj ml) H → va_D A (W_X5 cI m0 m1 m2 m3 m4 m5 m6 m7 m8 m9 m10 m11 mr mc me mw u2_0 mn mu ms mt md mz mi mk mo mj ml) → va_S A s.heap H locs → ∀ ls : Array Slot, lv_has ls 6 [(5, .int v30_5), (3, .int v20_3), (2, .int v20_2), (0, .ref m0)] → W p l e (headSpec wsX5_height rm_X5_height).room s m ([.ref m0, .int a1] : List Value).toArray below meth c H locs 0 0 (MQ below (Q_X5_height D cI m0 m1 m2 m3 m4 m5 m6 m7 m8 m9 m10 m11 mr mc me mw mh mn mu ms mt md mz mi mk mo mj ml a1 A) ([.ref m0, .int a1] : List Value).toArray s 0 0 A) (F0 m 59 ls [.int j9, .int v30_4]) := by
                  intro H locs hP hD hS ls hl
                  refine lv_ior hx hb dX5_height_59 ?_
                  refine lv_istore (lv' := [(4, .int (v30_4 ||| j9)), (5, .int v30_5), (3, .int v20_3), (2, .int v20_2), (0, .ref m0)]) hx hb dX5_height_60 hl (by decide) rfl (fun ls hl => ?_)
                  refine lv_iinc (v := (v30_5 + 1)) (lv' := [(5, .int (v30_5 + 1)), (4, .int (v30_4 ||| j9)), (3, .int v20_3), (2, .int v20_2), (0, .ref m0)]) hx hb dX5_height_62 hl (k := 1) rfl rfl (by decide) rfl (fun ls hl => ?_)
                  refine lv_goto (tgt := 30) hx hb dX5_height_65 (by decide) ?_
                  exact ih _ _ hp he _ _ hP hD hS _ (lv_sub hl [0, 1, 2, 3, 4] rfl)
                replace he := hJ9
                replace hp := hpJ9
                refine lv_if_eq (tgt := 58) hx hb dX5_height_45 (by decide) (fun c10 => ?_) (fun c10 => ?_)
                · replace hp := hp.1 c10
                  replace he := he.trans (if_pos c10)
                  refine lv_iconst (v := 0) hx hb dX5_height_58 (by decide) ?_
                  subst he
                  exact kont9 _ _ hP hD hS _ (lv_sub hl [0, 2, 3, 4] rfl)
                · replace hp := hp.2 c10
                  replace he := he.trans (if_neg c10)
                  refine lv_aload_n hx hb dX5_height_48 rfl (lv_at hl 4 rfl) ?_
                  refine va_get (D := D) (ci := 5) (v := .ref m1) (C := RX5) (T := TX5) (N := 16) hx hb hts (by decide +kernel) hown hK hP 0 rfl rfl 0 (by decide) (hts (.fieldLink RX5 7 "AlarmgroveModel" "needs" "[I") (by decide +kernel)) (fun _ h9 => h9) rfl dX5_height_49 ?_
                  refine lv_iload hx hb dX5_height_52 (lv_at hl 0 rfl) ?_
                  have h11 := hp.1
                  replace hp := hp.2
                  refine va_iald hx hb hK hP 1 0 rfl rfl h11 dX5_height_54 ?_
                  refine lv_goto (tgt := 59) hx hb dX5_height_55 (by decide) ?_
                  subst he
                  exact kont9 _ _ hP hD hS _ (lv_sub hl [0, 2, 3, 4] rfl)
          exact loop6 15 (0 : Int32) (0 : Int32) hpL6 hL6 _ _ hP hD hS _ (lv_sub hl [0, 1, 2, 3, 4] rfl)
    exact loop4 16 (1 <<< (a1 &&& 31)) ((-1) : Int32) hpL4 hL4 _ _ hP hD hS _ (lv_sub hl [0, 1, 2] rfl)
  · replace hp := hp.1 c3
    replace he := he.trans (if_pos c3)
    refine lv_iconst (v := 0) hx hb dX5_height_12 (by decide) ?_
    exact W.iret (v := 0) hx hb hr (fun t ht hW => ⟨⟨0, u2_0, rfl, he, by rw [ht]; exact hP, va_K.moved hW.alike hK, hD⟩, hS.F ht⟩) hS.2.2 dX5_height_13
abbrev rm_X5_tick : Room := { frames := 1, cells := 0, slots := 0, locals := 22 }
abbrev Q_X5_tick (D : va_G) (cI : ClassId) (m0 m1 m2 m3 m4 m5 m6 m7 m8 m9 m10 m11 : Nat) (mr : Int32) (mc : Int32) (me : Int32) (mw : Int32) (mh : Int32) (mn : AA) (mu : AA) (ms : AA) (mt : AA) (md : AA) (mz : AA) (mi : AA) (mk : AA) (mo : AA) (mj : AA) (ml : AA) (a1 : Int32) (A : Nat → Prop) : Array Value → State → Outcome → State → Prop := va_Qi (S := Int32 × Int32) (fun r u => f_X5_tick mw a1 = (r, u)) (fun u t => QW D [(cI, .int)] A (W_X5 cI m0 m1 m2 m3 m4 m5 m6 m7 m8 m9 m10 m11 mr mc me u.1 u.2 mn mu ms mt md mz mi mk mo mj ml) t) A
set_option maxHeartbeats 4000000 in
set_option maxRecDepth 100000 in
theorem c_X5_tick (l : Launch)  (D : va_G) (cI : ClassId) (m0 m1 m2 m3 m4 m5 m6 m7 m8 m9 m10 m11 : Nat) (mr : Int32) (mc : Int32) (me : Int32) (mw : Int32) (mh : Int32) (mn : AA) (mu : AA) (ms : AA) (mt : AA) (md : AA) (mz : AA) (mi : AA) (mk : AA) (mo : AA) (mj : AA) (ml : AA) (sz : Nat) (a1 : Int32) : Met l yX5_tick wsX5_tick rm_X5_tick (va_Pc [.ref m0, .int a1] (PW D [(cI, .int)] sz (W_X5 cI m0 m1 m2 m3 m4 m5 m6 m7 m8 m9 m10 m11 mr mc me mw mh mn mu ms mt md mz mi mk mo mj ml))) (Q_X5_tick D cI m0 m1 m2 m3 m4 m5 m6 m7 m8 m9 m10 m11 mr mc me mw mh mn mu ms mt md mz mi mk mo mj ml a1 (va_A (W_X5 cI m0 m1 m2 m3 m4 m5 m6 m7 m8 m9 m10 m11 mr mc me mw mh mn mu ms mt md mz mi mk mo mj ml) sz)) 0 0 (va_A (W_X5 cI m0 m1 m2 m3 m4 m5 m6 m7 m8 m9 m10 m11 mr mc me mw mh mn mu ms mt md mz mi mk mo mj ml) sz) := by
  refine Met.ofW (cc := cX5_tick) (maxL := 2) (ret := (some .int)) (by decide) rfl ?_
  intro p e s m args below meth c s₁ B hml hv
  obtain ⟨rfl, hsz, hP, hK, hD0, hN⟩ := hv
  have hx := B.exec
  have hb := B.bytes
  have hr := B.returns
  have hts := atoms_spec (ws := wsX5_tick) B.pre
  have hown : s.vm.findClass RX5 = some m.cls := findClass_of_methodNamed B.named
  have hlocks := B.notSynchronized
  subst hsz
  have hD := hD0.self (sz := s.heap.size)
  generalize hAe : va_A (W_X5 cI m0 m1 m2 m3 m4 m5 m6 m7 m8 m9 m10 m11 mr mc me mw mh mn mu ms mt md mz mi mk mo mj ml) s.heap.size = A at hD ⊢
  have hA : ∀ q : Nat, s.heap.size ≤ q → A q := fun q h => by rw [← hAe]; exact Or.inr h
  have hS : va_S A s.heap s.heap [] := va_S.rf
  have hl := lv_entry ([.ref m0, .int a1]) (n := 2) (Nat.le_of_ble_eq_true rfl)
  rw [lg_entry_eq]
  generalize (lg_sl ([.ref m0, .int a1]) ++ List.replicate (2 - (lg_sl ([.ref m0, .int a1])).length) Slot.unset).toArray = ls at hl ⊢
  have hl : lv_has ls 2 [(0, .ref m0), (1, .int a1)] := hl
  have he := f_X5_tick.eq_1 mw a1
  refine lv_aload_n hx hb dX5_tick_0 rfl (lv_at hl 0 rfl) ?_
  refine lv_iload_n hx hb dX5_tick_1 rfl (lv_at hl 1 rfl) ?_
  refine lv_iconst (v := 1) hx hb dX5_tick_2 (by decide) ?_
  obtain ⟨j1, hJ1⟩ : ∃ z : Int32, z = (if a1 < 1 then (0 : Int32) else (if 100 < a1 then (0 : Int32) else (1 : Int32))) := ⟨_, rfl⟩
  rw [← hJ1] at he
  try dsimp only at he
  have kont1 : (j1 = 0 ∨ j1 = 1) → ∀ (H : Heap) (locs : List Loc), va_P D vwCl (W_X5 cI m0 m1 m2 m3 m4 m5 m6 m7 m8 m9 m10 m11 mr mc me mw mh mn mu ms mt md mz mi mk mo mj ml) H → va_D A (W_X5 cI m0 m1 m2 m3 m4 m5 m6 m7 m8 m9 m10 m11 mr mc me mw mh mn mu ms mt md mz mi mk mo mj ml) → va_S A s.heap H locs → ∀ ls : Array Slot, lv_has ls 2 [(0, .ref m0), (1, .int a1)] → W p l e (headSpec wsX5_tick rm_X5_tick).room s m ([.ref m0, .int a1] : List Value).toArray below meth c H locs 0 0 (MQ below (Q_X5_tick D cI m0 m1 m2 m3 m4 m5 m6 m7 m8 m9 m10 m11 mr mc me mw mh mn mu ms mt md mz mi mk mo mj ml a1 A) ([.ref m0, .int a1] : List Value).toArray s 0 0 A) (F0 m 17 ls [.int j1, .ref m0]) := by
    intro hb1 H locs hP hD hS ls hl
    refine lv_iconst (v := 1) hx hb dX5_tick_17 (by decide) ?_
    refine k_calli (S := Int32) (wc := (W_X5 cI m0 m1 m2 m3 m4 m5 m6 m7 m8 m9 m10 m11 mr mc me mw mh mn mu ms mt md mz mi mk mo mj ml)) (wr := ([] : va_W)) (w1 := fun u => (W_X5 cI m0 m1 m2 m3 m4 m5 m6 m7 m8 m9 m10 m11 mr mc me mw u mn mu ms mt md mz mi mk mo mj ml)) (fun u => (W_X5 cI m0 m1 m2 m3 m4 m5 m6 m7 m8 m9 m10 m11 mr mc me mw u mn mu ms mt md mz mi mk mo mj ml)) hP hK hD hN hS hA [0, 1, 2, 3, 4, 5, 6, 7, 8, 9, 10, 11] [] rfl rfl (by decide) (by decide) (by decide) [0, 1, 2, 3, 4, 5, 6, 7, 8, 9, 10, 11] (by decide) (fun _ => rfl) (fun hg => va_runV (As := [.int j1, .int 1]) (rest := []) ⟨hx, hb, hml, hown, hts⟩ (c_X5_goes l D cI m0 m1 m2 m3 m4 m5 m6 m7 m8 m9 m10 m11 mr mc me mw mh mn mu ms mt md mz mi mk mo mj ml _ j1 1) (cwV 2 hts gX5_tick_X5_goes rfl rfl rfl (by decide +kernel) ⟨Nat.le_of_ble_eq_true rfl, Nat.le_of_ble_eq_true rfl⟩) ⟨PW.blind, va_recv hK hP (ci := 5) (q0 := 0) rfl rfl, fun U hU hW => ⟨rfl, hg U hU hW⟩⟩ rfl rfl hl.1 rfl (lv_room (Nat.le_of_ble_eq_true rfl)) dX5_tick_18 ⟨Nat.le_of_ble_eq_true rfl, Nat.le_of_ble_eq_true rfl⟩) (fun r4 u H locs hw hP hD hS => ?_)
    obtain ⟨u4_0, rfl⟩ : ∃ z, z = u := ⟨_, rfl⟩
    obtain ⟨hw, hb4⟩ := hw
    rw [hw] at he
    try dsimp only at he
    have hP : va_P D vwCl (W_X5 cI m0 m1 m2 m3 m4 m5 m6 m7 m8 m9 m10 m11 mr mc me mw u4_0 mn mu ms mt md mz mi mk mo mj ml) H := hP
    have hD : va_D A (W_X5 cI m0 m1 m2 m3 m4 m5 m6 m7 m8 m9 m10 m11 mr mc me mw u4_0 mn mu ms mt md mz mi mk mo mj ml) := hD
    refine lv_if_ne (tgt := 26) hx hb dX5_tick_21 (by decide) (fun c5 => ?_) (fun c5 => ?_)
    · replace he := he.trans (if_neg c5)
      refine lv_aload_n hx hb dX5_tick_26 rfl (lv_at hl 0 rfl) ?_
      refine lv_dup hx hb dX5_tick_27 rfl ?_
      refine va_get (D := D) (ci := 5) (v := .int mw) (C := RX5) (T := TX5) (N := 16) hx hb hts (by decide +kernel) hown hK hP 0 rfl rfl 14 (by decide) (hts (.fieldLink RX5 62 "AlarmgroveModel" "now" "I") (by decide +kernel)) (fun _ h9 => h9) rfl dX5_tick_28 ?_
      refine lv_iload_n hx hb dX5_tick_31 rfl (lv_at hl 1 rfl) ?_
      refine lv_iadd hx hb dX5_tick_32 ?_
      refine va_put (D := D) (ci := 5) (v := .int (mw + a1)) (ty := .int) (C := RX5) (T := TX5) (N := 16) hx hb hts (by decide +kernel) tyX5 tyX5_ok nmX5 hown hK hP hD hS 0 rfl rfl 14 (by decide) (hts (.fieldLink RX5 62 "AlarmgroveModel" "now" "I") (by decide +kernel)) (fun _ h9 => h9) rfl (by decide +kernel) rfl rfl (Nat.le_of_ble_eq_true rfl) dX5_tick_33 (fun H locs hP hD hS => ?_)
      have hP : va_P D vwCl (W_X5 cI m0 m1 m2 m3 m4 m5 m6 m7 m8 m9 m10 m11 mr mc me (mw + a1) u4_0 mn mu ms mt md mz mi mk mo mj ml) H := hP
      have hD : va_D A (W_X5 cI m0 m1 m2 m3 m4 m5 m6 m7 m8 m9 m10 m11 mr mc me (mw + a1) u4_0 mn mu ms mt md mz mi mk mo mj ml) := hD
      refine lv_aload_n hx hb dX5_tick_36 rfl (lv_at hl 0 rfl) ?_
      refine va_get (D := D) (ci := 5) (v := .int (mw + a1)) (C := RX5) (T := TX5) (N := 16) hx hb hts (by decide +kernel) hown hK hP 0 rfl rfl 14 (by decide) (hts (.fieldLink RX5 62 "AlarmgroveModel" "now" "I") (by decide +kernel)) (fun _ h9 => h9) rfl dX5_tick_37 ?_
      exact W.iret (v := (mw + a1)) hx hb hr (fun t ht hW => ⟨⟨(mw + a1), ((mw + a1), u4_0), rfl, he, by rw [ht]; exact hP, va_K.moved hW.alike hK, hD⟩, hS.F ht⟩) hS.2.2 dX5_tick_40
    · replace he := he.trans (if_pos c5)
      refine lv_iconst (v := 0) hx hb dX5_tick_24 (by decide) ?_
      exact W.iret (v := 0) hx hb hr (fun t ht hW => ⟨⟨0, (mw, u4_0), rfl, he, by rw [ht]; exact hP, va_K.moved hW.alike hK, hD⟩, hS.F ht⟩) hS.2.2 dX5_tick_25
  replace he := hJ1
  refine lv_icmp_lt (tgt := 16) hx hb dX5_tick_3 (by decide) (fun c2 => ?_) (fun c2 => ?_)
  · replace he := he.trans (if_pos c2)
    refine lv_iconst (v := 0) hx hb dX5_tick_16 (by decide) ?_
    subst he
    exact kont1 (Or.inl rfl) _ _ hP hD hS _ (lv_sub hl [0, 1] rfl)
  · replace he := he.trans (if_neg c2)
    refine lv_iload_n hx hb dX5_tick_6 rfl (lv_at hl 1 rfl) ?_
    refine lv_bipush (v := 100) hx hb dX5_tick_7 (by decide) ?_
    refine lv_icmp_gt (tgt := 16) hx hb dX5_tick_9 (by decide) (fun c3 => ?_) (fun c3 => ?_)
    · replace he := he.trans (if_pos c3)
      refine lv_iconst (v := 0) hx hb dX5_tick_16 (by decide) ?_
      subst he
      exact kont1 (Or.inl rfl) _ _ hP hD hS _ (lv_sub hl [0, 1] rfl)
    · replace he := he.trans (if_neg c3)
      refine lv_iconst (v := 1) hx hb dX5_tick_12 (by decide) ?_
      refine lv_goto (tgt := 17) hx hb dX5_tick_13 (by decide) ?_
      subst he
      exact kont1 (Or.inr rfl) _ _ hP hD hS _ (lv_sub hl [0, 1] rfl)
abbrev rm_X5_now : Room := { frames := 0, cells := 0, slots := 0, locals := 0 }
abbrev Q_X5_now (D : va_G) (cI : ClassId) (m0 m1 m2 m3 m4 m5 m6 m7 m8 m9 m10 m11 : Nat) (mr : Int32) (mc : Int32) (me : Int32) (mw : Int32) (mh : Int32) (mn : AA) (mu : AA) (ms : AA) (mt : AA) (md : AA) (mz : AA) (mi : AA) (mk : AA) (mo : AA) (mj : AA) (ml : AA) (A : Nat → Prop) : Array Value → State → Outcome → State → Prop := va_Qi (S := Int32) (fun r u => f_X5_now mw = (r, u)) (fun u t => QW D [(cI, .int)] A (W_X5 cI m0 m1 m2 m3 m4 m5 m6 m7 m8 m9 m10 m11 mr mc me mw u mn mu ms mt md mz mi mk mo mj ml) t) A
set_option maxHeartbeats 4000000 in
set_option maxRecDepth 100000 in
theorem c_X5_now (l : Launch)  (D : va_G) (cI : ClassId) (m0 m1 m2 m3 m4 m5 m6 m7 m8 m9 m10 m11 : Nat) (mr : Int32) (mc : Int32) (me : Int32) (mw : Int32) (mh : Int32) (mn : AA) (mu : AA) (ms : AA) (mt : AA) (md : AA) (mz : AA) (mi : AA) (mk : AA) (mo : AA) (mj : AA) (ml : AA) (sz : Nat) : Met l yX5_now wsX5_now rm_X5_now (va_Pc [.ref m0] (PW D [(cI, .int)] sz (W_X5 cI m0 m1 m2 m3 m4 m5 m6 m7 m8 m9 m10 m11 mr mc me mw mh mn mu ms mt md mz mi mk mo mj ml))) (Q_X5_now D cI m0 m1 m2 m3 m4 m5 m6 m7 m8 m9 m10 m11 mr mc me mw mh mn mu ms mt md mz mi mk mo mj ml (va_A (W_X5 cI m0 m1 m2 m3 m4 m5 m6 m7 m8 m9 m10 m11 mr mc me mw mh mn mu ms mt md mz mi mk mo mj ml) sz)) 0 0 (va_A (W_X5 cI m0 m1 m2 m3 m4 m5 m6 m7 m8 m9 m10 m11 mr mc me mw mh mn mu ms mt md mz mi mk mo mj ml) sz) := by
  refine Met.ofW (cc := cX5_now) (maxL := 1) (ret := (some .int)) (by decide) rfl ?_
  intro p e s m args below meth c s₁ B hml hv
  obtain ⟨rfl, hsz, hP, hK, hD0, hN⟩ := hv
  have hx := B.exec
  have hb := B.bytes
  have hr := B.returns
  have hts := atoms_spec (ws := wsX5_now) B.pre
  have hown : s.vm.findClass RX5 = some m.cls := findClass_of_methodNamed B.named
  have hlocks := B.notSynchronized
  subst hsz
  have hD := hD0.self (sz := s.heap.size)
  generalize hAe : va_A (W_X5 cI m0 m1 m2 m3 m4 m5 m6 m7 m8 m9 m10 m11 mr mc me mw mh mn mu ms mt md mz mi mk mo mj ml) s.heap.size = A at hD ⊢
  have hA : ∀ q : Nat, s.heap.size ≤ q → A q := fun q h => by rw [← hAe]; exact Or.inr h
  have hS : va_S A s.heap s.heap [] := va_S.rf
  have hl := lv_entry ([.ref m0]) (n := 1) (Nat.le_of_ble_eq_true rfl)
  rw [lg_entry_eq]
  generalize (lg_sl ([.ref m0]) ++ List.replicate (1 - (lg_sl ([.ref m0])).length) Slot.unset).toArray = ls at hl ⊢
  have hl : lv_has ls 1 [(0, .ref m0)] := hl
  have he := f_X5_now.eq_1 mw
  refine lv_aload_n hx hb dX5_now_0 rfl (lv_at hl 0 rfl) ?_
  refine lv_iconst (v := 0) hx hb dX5_now_1 (by decide) ?_
  refine va_put (D := D) (ci := 5) (v := .int 0) (ty := .int) (C := RX5) (T := TX5) (N := 16) hx hb hts (by decide +kernel) tyX5 tyX5_ok nmX5 hown hK hP hD hS 0 rfl rfl 15 (by decide) (hts (.fieldLink RX5 43 "AlarmgroveModel" "thrown" "I") (by decide +kernel)) (fun _ h9 => h9) rfl (by decide +kernel) rfl rfl (Nat.le_of_ble_eq_true rfl) dX5_now_2 (fun H locs hP hD hS => ?_)
  have hP : va_P D vwCl (W_X5 cI m0 m1 m2 m3 m4 m5 m6 m7 m8 m9 m10 m11 mr mc me mw 0 mn mu ms mt md mz mi mk mo mj ml) H := hP
  have hD : va_D A (W_X5 cI m0 m1 m2 m3 m4 m5 m6 m7 m8 m9 m10 m11 mr mc me mw 0 mn mu ms mt md mz mi mk mo mj ml) := hD
  refine lv_aload_n hx hb dX5_now_5 rfl (lv_at hl 0 rfl) ?_
  refine va_get (D := D) (ci := 5) (v := .int mw) (C := RX5) (T := TX5) (N := 16) hx hb hts (by decide +kernel) hown hK hP 0 rfl rfl 14 (by decide) (hts (.fieldLink RX5 62 "AlarmgroveModel" "now" "I") (by decide +kernel)) (fun _ h9 => h9) rfl dX5_now_6 ?_
  exact W.iret (v := mw) hx hb hr (fun t ht hW => ⟨⟨mw, 0, rfl, he, by rw [ht]; exact hP, va_K.moved hW.alike hK, hD⟩, hS.F ht⟩) hS.2.2 dX5_now_9
abbrev rm_X5_notes : Room := { frames := 0, cells := 0, slots := 0, locals := 0 }
abbrev Q_X5_notes (D : va_G) (cI : ClassId) (m0 m1 m2 m3 m4 m5 m6 m7 m8 m9 m10 m11 : Nat) (mr : Int32) (mc : Int32) (me : Int32) (mw : Int32) (mh : Int32) (mn : AA) (mu : AA) (ms : AA) (mt : AA) (md : AA) (mz : AA) (mi : AA) (mk : AA) (mo : AA) (mj : AA) (ml : AA) (a1 a2 a3 : Int32) (A : Nat → Prop) : Array Value → State → Outcome → State → Prop := va_Qv (S := Int32 × AA × AA × AA × AA) (fun u => f_X5_notes me mw mk mo mj ml a1 a2 a3 = u) (fun u t => QW D [(cI, .int)] A (W_X5 cI m0 m1 m2 m3 m4 m5 m6 m7 m8 m9 m10 m11 mr mc u.1 mw mh mn mu ms mt md mz mi u.2.1 u.2.2.1 u.2.2.2.1 u.2.2.2.2) t) A
set_option maxHeartbeats 4000000 in
set_option maxRecDepth 100000 in
theorem c_X5_notes (l : Launch)  (D : va_G) (cI : ClassId) (m0 m1 m2 m3 m4 m5 m6 m7 m8 m9 m10 m11 : Nat) (mr : Int32) (mc : Int32) (me : Int32) (mw : Int32) (mh : Int32) (mn : AA) (mu : AA) (ms : AA) (mt : AA) (md : AA) (mz : AA) (mi : AA) (mk : AA) (mo : AA) (mj : AA) (ml : AA) (sz : Nat) (a1 a2 a3 : Int32) (hp : p_X5_notes me) : Met l yX5_notes wsX5_notes rm_X5_notes (va_Pc [.ref m0, .int a1, .int a2, .int a3] (PW D [(cI, .int)] sz (W_X5 cI m0 m1 m2 m3 m4 m5 m6 m7 m8 m9 m10 m11 mr mc me mw mh mn mu ms mt md mz mi mk mo mj ml))) (Q_X5_notes D cI m0 m1 m2 m3 m4 m5 m6 m7 m8 m9 m10 m11 mr mc me mw mh mn mu ms mt md mz mi mk mo mj ml a1 a2 a3 (va_A (W_X5 cI m0 m1 m2 m3 m4 m5 m6 m7 m8 m9 m10 m11 mr mc me mw mh mn mu ms mt md mz mi mk mo mj ml) sz)) 0 0 (va_A (W_X5 cI m0 m1 m2 m3 m4 m5 m6 m7 m8 m9 m10 m11 mr mc me mw mh mn mu ms mt md mz mi mk mo mj ml) sz) := by
  refine Met.ofW (cc := cX5_notes) (maxL := 4) (ret := none) (by decide) rfl ?_
  intro p e s m args below meth c s₁ B hml hv
  obtain ⟨rfl, hsz, hP, hK, hD0, hN⟩ := hv
  have hx := B.exec
  have hb := B.bytes
  have hr := B.returns
  have hts := atoms_spec (ws := wsX5_notes) B.pre
  have hown : s.vm.findClass RX5 = some m.cls := findClass_of_methodNamed B.named
  have hlocks := B.notSynchronized
  subst hsz
  have hD := hD0.self (sz := s.heap.size)
  generalize hAe : va_A (W_X5 cI m0 m1 m2 m3 m4 m5 m6 m7 m8 m9 m10 m11 mr mc me mw mh mn mu ms mt md mz mi mk mo mj ml) s.heap.size = A at hD ⊢
  have hA : ∀ q : Nat, s.heap.size ≤ q → A q := fun q h => by rw [← hAe]; exact Or.inr h
  have hS : va_S A s.heap s.heap [] := va_S.rf
  have hl := lv_entry ([.ref m0, .int a1, .int a2, .int a3]) (n := 4) (Nat.le_of_ble_eq_true rfl)
  rw [lg_entry_eq]
  generalize (lg_sl ([.ref m0, .int a1, .int a2, .int a3]) ++ List.replicate (4 - (lg_sl ([.ref m0, .int a1, .int a2, .int a3])).length) Slot.unset).toArray = ls at hl ⊢
  have hl : lv_has ls 4 [(0, .ref m0), (1, .int a1), (2, .int a2), (3, .int a3)] := hl
  have he := f_X5_notes.eq_1 me mw mk mo mj ml a1 a2 a3
  replace hp := Eq.mp (p_X5_notes.eq_1 ..) hp
  refine lv_aload_n hx hb dX5_notes_0 rfl (lv_at hl 0 rfl) ?_
  refine va_get (D := D) (ci := 5) (v := .ref m8) (C := RX5) (T := TX5) (N := 16) hx hb hts (by decide +kernel) hown hK hP 0 rfl rfl 9 (by decide) (hts (.fieldLink RX5 31 "AlarmgroveModel" "kind" "[I") (by decide +kernel)) (fun _ h9 => h9) rfl dX5_notes_1 ?_
  refine lv_aload_n hx hb dX5_notes_4 rfl (lv_at hl 0 rfl) ?_
  refine va_get (D := D) (ci := 5) (v := .int me) (C := RX5) (T := TX5) (N := 16) hx hb hts (by decide +kernel) hown hK hP 0 rfl rfl 13 (by decide) (hts (.fieldLink RX5 65 "AlarmgroveModel" "events" "I") (by decide +kernel)) (fun _ h9 => h9) rfl dX5_notes_5 ?_
  refine lv_iload_n hx hb dX5_notes_8 rfl (lv_at hl 1 rfl) ?_
  have h1 := hp.1
  replace hp := hp.2
  refine va_iast hx hb hK hP hD hS 8 0 rfl rfl h1 dX5_notes_9 (fun H locs hP hD hS => ?_)
  have hP : va_P D vwCl (W_X5 cI m0 m1 m2 m3 m4 m5 m6 m7 m8 m9 m10 m11 mr mc me mw mh mn mu ms mt md mz mi (upd mk (me).toNatClampNeg a1) mo mj ml) H := hP
  have hD : va_D A (W_X5 cI m0 m1 m2 m3 m4 m5 m6 m7 m8 m9 m10 m11 mr mc me mw mh mn mu ms mt md mz mi (upd mk (me).toNatClampNeg a1) mo mj ml) := hD
  refine lv_aload_n hx hb dX5_notes_10 rfl (lv_at hl 0 rfl) ?_
  refine va_get (D := D) (ci := 5) (v := .ref m9) (C := RX5) (T := TX5) (N := 16) hx hb hts (by decide +kernel) hown hK hP 0 rfl rfl 10 (by decide) (hts (.fieldLink RX5 34 "AlarmgroveModel" "node" "[I") (by decide +kernel)) (fun _ h9 => h9) rfl dX5_notes_11 ?_
  refine lv_aload_n hx hb dX5_notes_14 rfl (lv_at hl 0 rfl) ?_
  refine va_get (D := D) (ci := 5) (v := .int me) (C := RX5) (T := TX5) (N := 16) hx hb hts (by decide +kernel) hown hK hP 0 rfl rfl 13 (by decide) (hts (.fieldLink RX5 65 "AlarmgroveModel" "events" "I") (by decide +kernel)) (fun _ h9 => h9) rfl dX5_notes_15 ?_
  refine lv_iload_n hx hb dX5_notes_18 rfl (lv_at hl 2 rfl) ?_
  have h2 := hp.1
  replace hp := hp.2
  refine va_iast hx hb hK hP hD hS 9 0 rfl rfl h2 dX5_notes_19 (fun H locs hP hD hS => ?_)
  have hP : va_P D vwCl (W_X5 cI m0 m1 m2 m3 m4 m5 m6 m7 m8 m9 m10 m11 mr mc me mw mh mn mu ms mt md mz mi (upd mk (me).toNatClampNeg a1) (upd mo (me).toNatClampNeg a2) mj ml) H := hP
  have hD : va_D A (W_X5 cI m0 m1 m2 m3 m4 m5 m6 m7 m8 m9 m10 m11 mr mc me mw mh mn mu ms mt md mz mi (upd mk (me).toNatClampNeg a1) (upd mo (me).toNatClampNeg a2) mj ml) := hD
  refine lv_aload_n hx hb dX5_notes_20 rfl (lv_at hl 0 rfl) ?_
  refine va_get (D := D) (ci := 5) (v := .ref m10) (C := RX5) (T := TX5) (N := 16) hx hb hts (by decide +kernel) hown hK hP 0 rfl rfl 11 (by decide) (hts (.fieldLink RX5 37 "AlarmgroveModel" "time" "[I") (by decide +kernel)) (fun _ h9 => h9) rfl dX5_notes_21 ?_
  refine lv_aload_n hx hb dX5_notes_24 rfl (lv_at hl 0 rfl) ?_
  refine va_get (D := D) (ci := 5) (v := .int me) (C := RX5) (T := TX5) (N := 16) hx hb hts (by decide +kernel) hown hK hP 0 rfl rfl 13 (by decide) (hts (.fieldLink RX5 65 "AlarmgroveModel" "events" "I") (by decide +kernel)) (fun _ h9 => h9) rfl dX5_notes_25 ?_
  refine lv_aload_n hx hb dX5_notes_28 rfl (lv_at hl 0 rfl) ?_
  refine va_get (D := D) (ci := 5) (v := .int mw) (C := RX5) (T := TX5) (N := 16) hx hb hts (by decide +kernel) hown hK hP 0 rfl rfl 14 (by decide) (hts (.fieldLink RX5 62 "AlarmgroveModel" "now" "I") (by decide +kernel)) (fun _ h9 => h9) rfl dX5_notes_29 ?_
  have h3 := hp.1
  replace hp := hp.2
  refine va_iast hx hb hK hP hD hS 10 0 rfl rfl h3 dX5_notes_32 (fun H locs hP hD hS => ?_)
  have hP : va_P D vwCl (W_X5 cI m0 m1 m2 m3 m4 m5 m6 m7 m8 m9 m10 m11 mr mc me mw mh mn mu ms mt md mz mi (upd mk (me).toNatClampNeg a1) (upd mo (me).toNatClampNeg a2) (upd mj (me).toNatClampNeg mw) ml) H := hP
  have hD : va_D A (W_X5 cI m0 m1 m2 m3 m4 m5 m6 m7 m8 m9 m10 m11 mr mc me mw mh mn mu ms mt md mz mi (upd mk (me).toNatClampNeg a1) (upd mo (me).toNatClampNeg a2) (upd mj (me).toNatClampNeg mw) ml) := hD
  refine lv_aload_n hx hb dX5_notes_33 rfl (lv_at hl 0 rfl) ?_
  refine va_get (D := D) (ci := 5) (v := .ref m11) (C := RX5) (T := TX5) (N := 16) hx hb hts (by decide +kernel) hown hK hP 0 rfl rfl 12 (by decide) (hts (.fieldLink RX5 40 "AlarmgroveModel" "length" "[I") (by decide +kernel)) (fun _ h9 => h9) rfl dX5_notes_34 ?_
  refine lv_aload_n hx hb dX5_notes_37 rfl (lv_at hl 0 rfl) ?_
  refine va_get (D := D) (ci := 5) (v := .int me) (C := RX5) (T := TX5) (N := 16) hx hb hts (by decide +kernel) hown hK hP 0 rfl rfl 13 (by decide) (hts (.fieldLink RX5 65 "AlarmgroveModel" "events" "I") (by decide +kernel)) (fun _ h9 => h9) rfl dX5_notes_38 ?_
  refine lv_iload_n hx hb dX5_notes_41 rfl (lv_at hl 3 rfl) ?_
  have h4 := hp.1
  replace hp := hp.2
  refine va_iast hx hb hK hP hD hS 11 0 rfl rfl h4 dX5_notes_42 (fun H locs hP hD hS => ?_)
  have hP : va_P D vwCl (W_X5 cI m0 m1 m2 m3 m4 m5 m6 m7 m8 m9 m10 m11 mr mc me mw mh mn mu ms mt md mz mi (upd mk (me).toNatClampNeg a1) (upd mo (me).toNatClampNeg a2) (upd mj (me).toNatClampNeg mw) (upd ml (me).toNatClampNeg a3)) H := hP
  have hD : va_D A (W_X5 cI m0 m1 m2 m3 m4 m5 m6 m7 m8 m9 m10 m11 mr mc me mw mh mn mu ms mt md mz mi (upd mk (me).toNatClampNeg a1) (upd mo (me).toNatClampNeg a2) (upd mj (me).toNatClampNeg mw) (upd ml (me).toNatClampNeg a3)) := hD
  refine lv_aload_n hx hb dX5_notes_43 rfl (lv_at hl 0 rfl) ?_
  refine lv_dup hx hb dX5_notes_44 rfl ?_
  refine va_get (D := D) (ci := 5) (v := .int me) (C := RX5) (T := TX5) (N := 16) hx hb hts (by decide +kernel) hown hK hP 0 rfl rfl 13 (by decide) (hts (.fieldLink RX5 65 "AlarmgroveModel" "events" "I") (by decide +kernel)) (fun _ h9 => h9) rfl dX5_notes_45 ?_
  refine lv_iconst (v := 1) hx hb dX5_notes_48 (by decide) ?_
  refine lv_iadd hx hb dX5_notes_49 ?_
  refine va_put (D := D) (ci := 5) (v := .int (me + 1)) (ty := .int) (C := RX5) (T := TX5) (N := 16) hx hb hts (by decide +kernel) tyX5 tyX5_ok nmX5 hown hK hP hD hS 0 rfl rfl 13 (by decide) (hts (.fieldLink RX5 65 "AlarmgroveModel" "events" "I") (by decide +kernel)) (fun _ h9 => h9) rfl (by decide +kernel) rfl rfl (Nat.le_of_ble_eq_true rfl) dX5_notes_50 (fun H locs hP hD hS => ?_)
  have hP : va_P D vwCl (W_X5 cI m0 m1 m2 m3 m4 m5 m6 m7 m8 m9 m10 m11 mr mc (me + 1) mw mh mn mu ms mt md mz mi (upd mk (me).toNatClampNeg a1) (upd mo (me).toNatClampNeg a2) (upd mj (me).toNatClampNeg mw) (upd ml (me).toNatClampNeg a3)) H := hP
  have hD : va_D A (W_X5 cI m0 m1 m2 m3 m4 m5 m6 m7 m8 m9 m10 m11 mr mc (me + 1) mw mh mn mu ms mt md mz mi (upd mk (me).toNatClampNeg a1) (upd mo (me).toNatClampNeg a2) (upd mj (me).toNatClampNeg mw) (upd ml (me).toNatClampNeg a3)) := hD
  exact W.vret hx hb hr (fun t ht hW => ⟨⟨((me + 1), (upd mk (me).toNatClampNeg a1), (upd mo (me).toNatClampNeg a2), (upd mj (me).toNatClampNeg mw), (upd ml (me).toNatClampNeg a3)), rfl, he, by rw [ht]; exact hP, va_K.moved hW.alike hK, hD⟩, hS.F ht⟩) hS.2.2 dX5_notes_53
abbrev rm_X5_kin : Room := { frames := 1, cells := 0, slots := 0, locals := 21 }
abbrev Q_X5_kin (D : va_G) (cI : ClassId) (m0 m1 m2 m3 m4 m5 m6 m7 m8 m9 m10 m11 : Nat) (mr : Int32) (mc : Int32) (me : Int32) (mw : Int32) (mh : Int32) (mn : AA) (mu : AA) (ms : AA) (mt : AA) (md : AA) (mz : AA) (mi : AA) (mk : AA) (mo : AA) (mj : AA) (ml : AA) (a1 : Int32) (A : Nat → Prop) : Array Value → State → Outcome → State → Prop := va_Qi (S := Unit) (fun r u => f_X5_kin mu a1 = r) (fun u t => QW D [(cI, .int)] A (W_X5 cI m0 m1 m2 m3 m4 m5 m6 m7 m8 m9 m10 m11 mr mc me mw mh mn mu ms mt md mz mi mk mo mj ml) t) A
set_option maxHeartbeats 4000000 in
set_option maxRecDepth 100000 in
theorem c_X5_kin (l : Launch)  (D : va_G) (cI : ClassId) (m0 m1 m2 m3 m4 m5 m6 m7 m8 m9 m10 m11 : Nat) (mr : Int32) (mc : Int32) (me : Int32) (mw : Int32) (mh : Int32) (mn : AA) (mu : AA) (ms : AA) (mt : AA) (md : AA) (mz : AA) (mi : AA) (mk : AA) (mo : AA) (mj : AA) (ml : AA) (sz : Nat) (a1 : Int32) (hp : p_X5_kin mu a1) : Met l yX5_kin wsX5_kin rm_X5_kin (va_Pc [.ref m0, .int a1] (PW D [(cI, .int)] sz (W_X5 cI m0 m1 m2 m3 m4 m5 m6 m7 m8 m9 m10 m11 mr mc me mw mh mn mu ms mt md mz mi mk mo mj ml))) (Q_X5_kin D cI m0 m1 m2 m3 m4 m5 m6 m7 m8 m9 m10 m11 mr mc me mw mh mn mu ms mt md mz mi mk mo mj ml a1 (va_A (W_X5 cI m0 m1 m2 m3 m4 m5 m6 m7 m8 m9 m10 m11 mr mc me mw mh mn mu ms mt md mz mi mk mo mj ml) sz)) 0 0 (va_A (W_X5 cI m0 m1 m2 m3 m4 m5 m6 m7 m8 m9 m10 m11 mr mc me mw mh mn mu ms mt md mz mi mk mo mj ml) sz) := by
  refine Met.ofW (cc := cX5_kin) (maxL := 4) (ret := (some .int)) (by decide) rfl ?_
  intro p e s m args below meth c s₁ B hml hv
  obtain ⟨rfl, hsz, hP, hK, hD0, hN⟩ := hv
  have hx := B.exec
  have hb := B.bytes
  have hr := B.returns
  have hts := atoms_spec (ws := wsX5_kin) B.pre
  have hown : s.vm.findClass RX5 = some m.cls := findClass_of_methodNamed B.named
  have hlocks := B.notSynchronized
  subst hsz
  have hD := hD0.self (sz := s.heap.size)
  generalize hAe : va_A (W_X5 cI m0 m1 m2 m3 m4 m5 m6 m7 m8 m9 m10 m11 mr mc me mw mh mn mu ms mt md mz mi mk mo mj ml) s.heap.size = A at hD ⊢
  have hA : ∀ q : Nat, s.heap.size ≤ q → A q := fun q h => by rw [← hAe]; exact Or.inr h
  have hS : va_S A s.heap s.heap [] := va_S.rf
  have hl := lv_entry ([.ref m0, .int a1]) (n := 4) (Nat.le_of_ble_eq_true rfl)
  rw [lg_entry_eq]
  generalize (lg_sl ([.ref m0, .int a1]) ++ List.replicate (4 - (lg_sl ([.ref m0, .int a1])).length) Slot.unset).toArray = ls at hl ⊢
  have hl : lv_has ls 4 [(0, .ref m0), (1, .int a1)] := hl
  have he := f_X5_kin.eq_1 mu a1
  replace hp := Eq.mp (p_X5_kin.eq_1 ..) hp
  refine lv_aload_n hx hb dX5_kin_0 rfl (lv_at hl 0 rfl) ?_
  refine va_get (D := D) (ci := 5) (v := .ref m2) (C := RX5) (T := TX5) (N := 16) hx hb hts (by decide +kernel) hown hK hP 0 rfl rfl 1 (by decide) (hts (.fieldLink RX5 13 "AlarmgroveModel" "under" "[I") (by decide +kernel)) (fun _ h9 => h9) rfl dX5_kin_1 ?_
  refine lv_iload_n hx hb dX5_kin_4 rfl (lv_at hl 1 rfl) ?_
  have h1 := hp.1
  replace hp := hp.2
  refine va_iald hx hb hK hP 2 0 rfl rfl h1 dX5_kin_5 ?_
  refine lv_istore_n (lv' := [(2, .int (mu (a1).toNatClampNeg)), (0, .ref m0), (1, .int a1)]) hx hb dX5_kin_6 rfl hl (by decide) rfl (fun ls hl => ?_)
  refine lv_iconst (v := 0) hx hb dX5_kin_7 (by decide) ?_
  refine lv_istore_n (lv' := [(3, .int 0), (2, .int (mu (a1).toNatClampNeg)), (0, .ref m0), (1, .int a1)]) hx hb dX5_kin_8 rfl hl (by decide) rfl (fun ls hl => ?_)
  obtain ⟨⟨r2_v9_2, r2_v9_3⟩, hL2⟩ : ∃ z, z = f_X5_kin_L9 mu a1 15 (mu (a1).toNatClampNeg) (0 : Int32) := ⟨_, rfl⟩
  rw [← hL2] at he
  try dsimp only at he
  have hpL2 := hp.1
  replace hp := hp.2 _ _ hL2.symm
  have kont2 : ∀ (x2_v9_2 : Int32) (x2_v9_3 : Int32), (r2_v9_2, r2_v9_3) = (x2_v9_2, x2_v9_3) → ∀ (H : Heap) (locs : List Loc), va_P D vwCl (W_X5 cI m0 m1 m2 m3 m4 m5 m6 m7 m8 m9 m10 m11 mr mc me mw mh mn mu ms mt md mz mi mk mo mj ml) H → va_D A (W_X5 cI m0 m1 m2 m3 m4 m5 m6 m7 m8 m9 m10 m11 mr mc me mw mh mn mu ms mt md mz mi mk mo mj ml) → va_S A s.heap H locs → ∀ ls : Array Slot, lv_has ls 4 [(2, .int x2_v9_2)] → W p l e (headSpec wsX5_kin rm_X5_kin).room s m ([.ref m0, .int a1] : List Value).toArray below meth c H locs 0 0 (MQ below (Q_X5_kin D cI m0 m1 m2 m3 m4 m5 m6 m7 m8 m9 m10 m11 mr mc me mw mh mn mu ms mt md mz mi mk mo mj ml a1 A) ([.ref m0, .int a1] : List Value).toArray s 0 0 A) (F0 m 44 ls []) := by
    intro x2_v9_2 x2_v9_3 hxe H locs hP hD hS ls hl
    simp only [Prod.mk.injEq] at hxe
    obtain ⟨rfl, rfl⟩ := hxe
    refine lv_iload_n hx hb dX5_kin_44 rfl (lv_at hl 0 rfl) ?_
    exact W.iret (v := r2_v9_2) hx hb hr (fun t ht hW => ⟨⟨r2_v9_2, (), rfl, he, by rw [ht]; exact hP, va_K.moved hW.alike hK, hD⟩, hS.F ht⟩) hS.2.2 dX5_kin_45
  have loop2 : ∀ (n : Nat) (v9_2 : Int32) (v9_3 : Int32), p_X5_kin_L9 mu a1 n v9_2 v9_3 → (r2_v9_2, r2_v9_3) = f_X5_kin_L9 mu a1 n v9_2 v9_3 → ∀ (H : Heap) (locs : List Loc), va_P D vwCl (W_X5 cI m0 m1 m2 m3 m4 m5 m6 m7 m8 m9 m10 m11 mr mc me mw mh mn mu ms mt md mz mi mk mo mj ml) H → va_D A (W_X5 cI m0 m1 m2 m3 m4 m5 m6 m7 m8 m9 m10 m11 mr mc me mw mh mn mu ms mt md mz mi mk mo mj ml) → va_S A s.heap H locs → ∀ ls : Array Slot, lv_has ls 4 [(3, .int v9_3), (2, .int v9_2), (0, .ref m0), (1, .int a1)] → W p l e (headSpec wsX5_kin rm_X5_kin).room s m ([.ref m0, .int a1] : List Value).toArray below meth c H locs 0 0 (MQ below (Q_X5_kin D cI m0 m1 m2 m3 m4 m5 m6 m7 m8 m9 m10 m11 mr mc me mw mh mn mu ms mt md mz mi mk mo mj ml a1 A) ([.ref m0, .int a1] : List Value).toArray s 0 0 A) (F0 m 9 ls []) := by
    intro n
    induction n with
    | zero => exact fun _ _ hp => hp.elim
    | succ n ih =>
      intro v9_2 v9_3 hp he H locs hP hD hS ls hl
      replace hp := Eq.mp (p_X5_kin_L9.eq_2 ..) hp
      replace he := he.trans (f_X5_kin_L9.eq_2 ..)
      refine lv_iload_n hx hb dX5_kin_9 rfl (lv_at hl 0 rfl) ?_
      refine lv_bipush (v := 14) hx hb dX5_kin_10 (by decide) ?_
      refine lv_icmp_ge (tgt := 44) hx hb dX5_kin_12 (by decide) (fun c3 => ?_) (fun c3 => ?_)
      · replace hp := hp.1 c3
        replace he := he.trans (if_pos c3)
        exact kont2 _ _ he _ _ hP hD hS _ (lv_sub hl [1] rfl)
      · replace hp := hp.2 c3
        replace he := he.trans (if_neg c3)
        refine lv_iload_n hx hb dX5_kin_15 rfl (lv_at hl 1 rfl) ?_
        refine lv_aload_n hx hb dX5_kin_16 rfl (lv_at hl 2 rfl) ?_
        refine va_get (D := D) (ci := 5) (v := .ref m2) (C := RX5) (T := TX5) (N := 16) hx hb hts (by decide +kernel) hown hK hP 0 rfl rfl 1 (by decide) (hts (.fieldLink RX5 13 "AlarmgroveModel" "under" "[I") (by decide +kernel)) (fun _ h9 => h9) rfl dX5_kin_17 ?_
        refine lv_iload_n hx hb dX5_kin_20 rfl (lv_at hl 0 rfl) ?_
        have h4 := hp.1
        replace hp := hp.2
        refine va_iald hx hb hK hP 2 0 rfl rfl h4 dX5_kin_21 ?_
        refine lv_iload_n hx hb dX5_kin_22 rfl (lv_at hl 3 rfl) ?_
        refine k_calli (S := Unit) (wc := ([] : va_W)) (wr := (W_X5 cI m0 m1 m2 m3 m4 m5 m6 m7 m8 m9 m10 m11 mr mc me mw mh mn mu ms mt md mz mi mk mo mj ml)) (w1 := fun u => ([] : va_W)) (fun u => (W_X5 cI m0 m1 m2 m3 m4 m5 m6 m7 m8 m9 m10 m11 mr mc me mw mh mn mu ms mt md mz mi mk mo mj ml)) hP hK hD hN hS hA [] [0, 1, 2, 3, 4, 5, 6, 7, 8, 9, 10, 11] rfl rfl (by decide) (by decide) (by decide) [0, 1, 2, 3, 4, 5, 6, 7, 8, 9, 10, 11] (by decide) (fun _ => rfl) (fun hg => va_runS (As := [.int (mu (v9_3).toNatClampNeg), .int a1]) (rest := [.int v9_2]) ⟨hx, hb, hml, hown, hts⟩ (c_X5_has l D cI _ (mu (v9_3).toNatClampNeg) a1) (va_cwS 2 hts gX5_kin_X5_has rfl rfl rfl (by decide +kernel) ⟨Nat.le_of_ble_eq_true rfl, Nat.le_of_ble_eq_true rfl⟩) ⟨PW.blind, fun U hU hW => ⟨rfl, hg U hU hW⟩⟩ rfl rfl hl.1 rfl (lv_room (Nat.le_of_ble_eq_true rfl)) dX5_kin_23 ⟨Nat.le_of_ble_eq_true rfl, Nat.le_of_ble_eq_true rfl⟩) (fun r5 u H locs hw hP hD hS => ?_)
        obtain ⟨hw, hb5⟩ := hw
        subst hw
        obtain ⟨j6, hJ6⟩ : ∃ z : Int32, z = (if (f_X5_has (mu (v9_3).toNatClampNeg) a1) = 0 then (0 : Int32) else (1 <<< (v9_3 &&& 31))) := ⟨_, rfl⟩
        rw [← hJ6] at he
        try dsimp only at he
        have hpJ6 := hp.1
        replace hp := hp.2 _  hJ6.symm
        have kont6 : ∀ (H : Heap) (locs : List Loc), va_P D vwCl (W_X5 cI m0 m1 m2 m3 m4 m5 m6 m7 m8 m9 m10 m11 mr mc me mw mh mn mu ms mt md mz mi mk mo mj ml) H → va_D A (W_X5 cI m0 m1 m2 m3 m4 m5 m6 m7 m8 m9 m10 m11 mr mc me mw mh mn mu ms mt md mz mi mk mo mj ml) → va_S A s.heap H locs → ∀ ls : Array Slot, lv_has ls 4 [(3, .int v9_3), (0, .ref m0), (1, .int a1)] → W p l e (headSpec wsX5_kin rm_X5_kin).room s m ([.ref m0, .int a1] : List Value).toArray below meth c H locs 0 0 (MQ below (Q_X5_kin D cI m0 m1 m2 m3 m4 m5 m6 m7 m8 m9 m10 m11 mr mc me mw mh mn mu ms mt md mz mi mk mo mj ml a1 A) ([.ref m0, .int a1] : List Value).toArray s 0 0 A) (F0 m 36 ls [.int j6, .int v9_2]) := by
          intro H locs hP hD hS ls hl
          refine lv_ior hx hb dX5_kin_36 ?_
          refine lv_istore_n (lv' := [(2, .int (v9_2 ||| j6)), (3, .int v9_3), (0, .ref m0), (1, .int a1)]) hx hb dX5_kin_37 rfl hl (by decide) rfl (fun ls hl => ?_)
          refine lv_iinc (v := (v9_3 + 1)) (lv' := [(3, .int (v9_3 + 1)), (2, .int (v9_2 ||| j6)), (0, .ref m0), (1, .int a1)]) hx hb dX5_kin_38 hl (k := 1) rfl rfl (by decide) rfl (fun ls hl => ?_)
          refine lv_goto (tgt := 9) hx hb dX5_kin_41 (by decide) ?_
          exact ih _ _ hp he _ _ hP hD hS _ (lv_sub hl [0, 1, 2, 3] rfl)
        replace he := hJ6
        replace hp := hpJ6
        refine lv_if_eq (tgt := 35) hx hb dX5_kin_26 (by decide) (fun c7 => ?_) (fun c7 => ?_)
        · replace hp := hp.1 c7
          replace he := he.trans (if_pos c7)
          refine lv_iconst (v := 0) hx hb dX5_kin_35 (by decide) ?_
          subst he
          exact kont6 _ _ hP hD hS _ (lv_sub hl [0, 2, 3] rfl)
        · replace hp := hp.2 c7
          replace he := he.trans (if_neg c7)
          refine lv_iconst (v := 1) hx hb dX5_kin_29 (by decide) ?_
          refine lv_iload_n hx hb dX5_kin_30 rfl (lv_at hl 0 rfl) ?_
          refine lv_ishl hx hb dX5_kin_31 ?_
          refine lv_goto (tgt := 36) hx hb dX5_kin_32 (by decide) ?_
          subst he
          exact kont6 _ _ hP hD hS _ (lv_sub hl [0, 2, 3] rfl)
  exact loop2 15 (mu (a1).toNatClampNeg) (0 : Int32) hpL2 hL2 _ _ hP hD hS _ (lv_sub hl [0, 1, 2, 3] rfl)
abbrev rm_X5_raise : Room := { frames := 2, cells := 0, slots := 0, locals := 44 }
abbrev Q_X5_raise (D : va_G) (cI : ClassId) (m0 m1 m2 m3 m4 m5 m6 m7 m8 m9 m10 m11 : Nat) (mr : Int32) (mc : Int32) (me : Int32) (mw : Int32) (mh : Int32) (mn : AA) (mu : AA) (ms : AA) (mt : AA) (md : AA) (mz : AA) (mi : AA) (mk : AA) (mo : AA) (mj : AA) (ml : AA) (a1 : Int32) (A : Nat → Prop) : Array Value → State → Outcome → State → Prop := va_Qi (S := Int32 × Int32 × Int32 × Int32 × AA × AA × AA × AA × AA × AA × AA × AA × AA) (fun r u => f_X5_raise mr mc me mw mu ms mt md mz mi mk mo mj ml a1 = (r, u)) (fun u t => QW D [(cI, .int)] A (W_X5 cI m0 m1 m2 m3 m4 m5 m6 m7 m8 m9 m10 m11 u.1 u.2.1 u.2.2.1 mw u.2.2.2.1 mn mu u.2.2.2.2.1 u.2.2.2.2.2.1 u.2.2.2.2.2.2.1 u.2.2.2.2.2.2.2.1 u.2.2.2.2.2.2.2.2.1 u.2.2.2.2.2.2.2.2.2.1 u.2.2.2.2.2.2.2.2.2.2.1 u.2.2.2.2.2.2.2.2.2.2.2.1 u.2.2.2.2.2.2.2.2.2.2.2.2) t) A
set_option maxHeartbeats 4000000 in
set_option maxRecDepth 100000 in
theorem c_X5_raise (l : Launch)  (D : va_G) (cI : ClassId) (m0 m1 m2 m3 m4 m5 m6 m7 m8 m9 m10 m11 : Nat) (mr : Int32) (mc : Int32) (me : Int32) (mw : Int32) (mh : Int32) (mn : AA) (mu : AA) (ms : AA) (mt : AA) (md : AA) (mz : AA) (mi : AA) (mk : AA) (mo : AA) (mj : AA) (ml : AA) (sz : Nat) (a1 : Int32) (hp : p_X5_raise mr mc me mw mu mt md mz mi mk mo mj ml a1) : Met l yX5_raise wsX5_raise rm_X5_raise (va_Pc [.ref m0, .int a1] (PW D [(cI, .int)] sz (W_X5 cI m0 m1 m2 m3 m4 m5 m6 m7 m8 m9 m10 m11 mr mc me mw mh mn mu ms mt md mz mi mk mo mj ml))) (Q_X5_raise D cI m0 m1 m2 m3 m4 m5 m6 m7 m8 m9 m10 m11 mr mc me mw mh mn mu ms mt md mz mi mk mo mj ml a1 (va_A (W_X5 cI m0 m1 m2 m3 m4 m5 m6 m7 m8 m9 m10 m11 mr mc me mw mh mn mu ms mt md mz mi mk mo mj ml) sz)) 0 0 (va_A (W_X5 cI m0 m1 m2 m3 m4 m5 m6 m7 m8 m9 m10 m11 mr mc me mw mh mn mu ms mt md mz mi mk mo mj ml) sz) := by
  refine Met.ofW (cc := cX5_raise) (maxL := 6) (ret := (some .int)) (by decide) rfl ?_
  intro p e s m args below meth c s₁ B hml hv
  obtain ⟨rfl, hsz, hP, hK, hD0, hN⟩ := hv
  have hx := B.exec
  have hb := B.bytes
  have hr := B.returns
  have hts := atoms_spec (ws := wsX5_raise) B.pre
  have hown : s.vm.findClass RX5 = some m.cls := findClass_of_methodNamed B.named
  have hlocks := B.notSynchronized
  subst hsz
  have hD := hD0.self (sz := s.heap.size)
  generalize hAe : va_A (W_X5 cI m0 m1 m2 m3 m4 m5 m6 m7 m8 m9 m10 m11 mr mc me mw mh mn mu ms mt md mz mi mk mo mj ml) s.heap.size = A at hD ⊢
  have hA : ∀ q : Nat, s.heap.size ≤ q → A q := fun q h => by rw [← hAe]; exact Or.inr h
  have hS : va_S A s.heap s.heap [] := va_S.rf
  have hl := lv_entry ([.ref m0, .int a1]) (n := 6) (Nat.le_of_ble_eq_true rfl)
  rw [lg_entry_eq]
  generalize (lg_sl ([.ref m0, .int a1]) ++ List.replicate (6 - (lg_sl ([.ref m0, .int a1])).length) Slot.unset).toArray = ls at hl ⊢
  have hl : lv_has ls 6 [(0, .ref m0), (1, .int a1)] := hl
  have he := f_X5_raise.eq_1 mr mc me mw mu ms mt md mz mi mk mo mj ml a1
  replace hp := Eq.mp (p_X5_raise.eq_1 ..) hp
  refine lv_iload_n hx hb dX5_raise_0 rfl (lv_at hl 1 rfl) ?_
  refine k_calli (S := Unit) (wc := ([] : va_W)) (wr := (W_X5 cI m0 m1 m2 m3 m4 m5 m6 m7 m8 m9 m10 m11 mr mc me mw mh mn mu ms mt md mz mi mk mo mj ml)) (w1 := fun u => ([] : va_W)) (fun u => (W_X5 cI m0 m1 m2 m3 m4 m5 m6 m7 m8 m9 m10 m11 mr mc me mw mh mn mu ms mt md mz mi mk mo mj ml)) hP hK hD hN hS hA [] [0, 1, 2, 3, 4, 5, 6, 7, 8, 9, 10, 11] rfl rfl (by decide) (by decide) (by decide) [0, 1, 2, 3, 4, 5, 6, 7, 8, 9, 10, 11] (by decide) (fun _ => rfl) (fun hg => va_runS (As := [.int a1]) (rest := []) ⟨hx, hb, hml, hown, hts⟩ (c_X5_isNode l D cI _ a1) (va_cwS 1 hts gX5_raise_X5_isNode rfl rfl rfl (by decide +kernel) ⟨Nat.le_of_ble_eq_true rfl, Nat.le_of_ble_eq_true rfl⟩) ⟨PW.blind, fun U hU hW => ⟨rfl, hg U hU hW⟩⟩ rfl rfl hl.1 rfl (lv_room (Nat.le_of_ble_eq_true rfl)) dX5_raise_1 ⟨Nat.le_of_ble_eq_true rfl, Nat.le_of_ble_eq_true rfl⟩) (fun r1 u H locs hw hP hD hS => ?_)
  obtain ⟨hw, hb1⟩ := hw
  subst hw
  refine lv_istore_n (lv' := [(2, .int (f_X5_isNode a1)), (0, .ref m0), (1, .int a1)]) hx hb dX5_raise_4 rfl hl (by decide) rfl (fun ls hl => ?_)
  refine lv_aload_n hx hb dX5_raise_5 rfl (lv_at hl 1 rfl) ?_
  refine lv_iload_n hx hb dX5_raise_6 rfl (lv_at hl 0 rfl) ?_
  refine lv_iload_n hx hb dX5_raise_7 rfl (lv_at hl 0 rfl) ?_
  obtain ⟨j2, hJ2⟩ : ∃ z : Int32, z = (if (f_X5_isNode a1) = 0 then (0 : Int32) else (if (f_X5_has mr a1) = 0 then (if 300 ≤ me then (0 : Int32) else (1 : Int32)) else (0 : Int32))) := ⟨_, rfl⟩
  rw [← hJ2] at he
  try dsimp only at he
  have hpJ2 := hp.1
  replace hp := hp.2 _  hJ2.symm
  have kont2 : (j2 = 0 ∨ j2 = 1) → ∀ (H : Heap) (locs : List Loc), va_P D vwCl (W_X5 cI m0 m1 m2 m3 m4 m5 m6 m7 m8 m9 m10 m11 mr mc me mw mh mn mu ms mt md mz mi mk mo mj ml) H → va_D A (W_X5 cI m0 m1 m2 m3 m4 m5 m6 m7 m8 m9 m10 m11 mr mc me mw mh mn mu ms mt md mz mi mk mo mj ml) → va_S A s.heap H locs → ∀ ls : Array Slot, lv_has ls 6 [(0, .ref m0), (1, .int a1)] → W p l e (headSpec wsX5_raise rm_X5_raise).room s m ([.ref m0, .int a1] : List Value).toArray below meth c H locs 0 0 (MQ below (Q_X5_raise D cI m0 m1 m2 m3 m4 m5 m6 m7 m8 m9 m10 m11 mr mc me mw mh mn mu ms mt md mz mi mk mo mj ml a1 A) ([.ref m0, .int a1] : List Value).toArray s 0 0 A) (F0 m 37 ls [.int j2, .int (f_X5_isNode a1), .ref m0]) := by
    intro hb2 H locs hP hD hS ls hl
    refine k_calli (S := Int32) (wc := (W_X5 cI m0 m1 m2 m3 m4 m5 m6 m7 m8 m9 m10 m11 mr mc me mw mh mn mu ms mt md mz mi mk mo mj ml)) (wr := ([] : va_W)) (w1 := fun u => (W_X5 cI m0 m1 m2 m3 m4 m5 m6 m7 m8 m9 m10 m11 mr mc me mw u mn mu ms mt md mz mi mk mo mj ml)) (fun u => (W_X5 cI m0 m1 m2 m3 m4 m5 m6 m7 m8 m9 m10 m11 mr mc me mw u mn mu ms mt md mz mi mk mo mj ml)) hP hK hD hN hS hA [0, 1, 2, 3, 4, 5, 6, 7, 8, 9, 10, 11] [] rfl rfl (by decide) (by decide) (by decide) [0, 1, 2, 3, 4, 5, 6, 7, 8, 9, 10, 11] (by decide) (fun _ => rfl) (fun hg => va_runV (As := [.int (f_X5_isNode a1), .int j2]) (rest := []) ⟨hx, hb, hml, hown, hts⟩ (c_X5_goes l D cI m0 m1 m2 m3 m4 m5 m6 m7 m8 m9 m10 m11 mr mc me mw mh mn mu ms mt md mz mi mk mo mj ml _ (f_X5_isNode a1) j2) (cwV 2 hts gX5_raise_X5_goes rfl rfl rfl (by decide +kernel) ⟨Nat.le_of_ble_eq_true rfl, Nat.le_of_ble_eq_true rfl⟩) ⟨PW.blind, va_recv hK hP (ci := 5) (q0 := 0) rfl rfl, fun U hU hW => ⟨rfl, hg U hU hW⟩⟩ rfl rfl hl.1 rfl (lv_room (Nat.le_of_ble_eq_true rfl)) dX5_raise_37 ⟨Nat.le_of_ble_eq_true rfl, Nat.le_of_ble_eq_true rfl⟩) (fun r7 u H locs hw hP hD hS => ?_)
    obtain ⟨u7_0, rfl⟩ : ∃ z, z = u := ⟨_, rfl⟩
    obtain ⟨hw, hb7⟩ := hw
    rw [hw] at he
    try dsimp only at he
    replace hp := hp r7 u7_0 hw
    have hP : va_P D vwCl (W_X5 cI m0 m1 m2 m3 m4 m5 m6 m7 m8 m9 m10 m11 mr mc me mw u7_0 mn mu ms mt md mz mi mk mo mj ml) H := hP
    have hD : va_D A (W_X5 cI m0 m1 m2 m3 m4 m5 m6 m7 m8 m9 m10 m11 mr mc me mw u7_0 mn mu ms mt md mz mi mk mo mj ml) := hD
    refine lv_if_ne (tgt := 45) hx hb dX5_raise_40 (by decide) (fun c8 => ?_) (fun c8 => ?_)
    · replace hp := hp.2 c8
      replace he := he.trans (if_neg c8)
      refine lv_aload_n hx hb dX5_raise_45 rfl (lv_at hl 0 rfl) ?_
      refine lv_iload_n hx hb dX5_raise_46 rfl (lv_at hl 1 rfl) ?_
      have hq9 := hp.1
      replace hp := hp.2
      refine k_calli (S := Unit) (wc := (W_X5 cI m0 m1 m2 m3 m4 m5 m6 m7 m8 m9 m10 m11 mr mc me mw u7_0 mn mu ms mt md mz mi mk mo mj ml)) (wr := ([] : va_W)) (w1 := fun u => (W_X5 cI m0 m1 m2 m3 m4 m5 m6 m7 m8 m9 m10 m11 mr mc me mw u7_0 mn mu ms mt md mz mi mk mo mj ml)) (fun u => (W_X5 cI m0 m1 m2 m3 m4 m5 m6 m7 m8 m9 m10 m11 mr mc me mw u7_0 mn mu ms mt md mz mi mk mo mj ml)) hP hK hD hN hS hA [0, 1, 2, 3, 4, 5, 6, 7, 8, 9, 10, 11] [] rfl rfl (by decide) (by decide) (by decide) [0, 1, 2, 3, 4, 5, 6, 7, 8, 9, 10, 11] (by decide) (fun _ => rfl) (fun hg => va_runV (As := [.int a1]) (rest := []) ⟨hx, hb, hml, hown, hts⟩ (c_X5_kin l D cI m0 m1 m2 m3 m4 m5 m6 m7 m8 m9 m10 m11 mr mc me mw u7_0 mn mu ms mt md mz mi mk mo mj ml _ a1 hq9) (cwV 1 hts gX5_raise_X5_kin rfl rfl rfl (by decide +kernel) ⟨Nat.le_of_ble_eq_true rfl, Nat.le_of_ble_eq_true rfl⟩) ⟨PW.blind, va_recv hK hP (ci := 5) (q0 := 0) rfl rfl, fun U hU hW => ⟨rfl, hg U hU hW⟩⟩ rfl rfl hl.1 rfl (lv_room (Nat.le_of_ble_eq_true rfl)) dX5_raise_47 ⟨Nat.le_of_ble_eq_true rfl, Nat.le_of_ble_eq_true rfl⟩) (fun r9 u H locs hw hP hD hS => ?_)
      subst hw
      refine lv_aload_n hx hb dX5_raise_50 rfl (lv_at hl 0 rfl) ?_
      refine va_get (D := D) (ci := 5) (v := .int mr) (C := RX5) (T := TX5) (N := 16) hx hb hts (by decide +kernel) hown hK hP 0 rfl rfl 2 (by decide) (hts (.fieldLink RX5 68 "AlarmgroveModel" "raised" "I") (by decide +kernel)) (fun _ h9 => h9) rfl dX5_raise_51 ?_
      refine lv_iand hx hb dX5_raise_54 ?_
      refine lv_istore_n (lv' := [(3, .int ((f_X5_kin mu a1) &&& mr)), (0, .ref m0), (1, .int a1)]) hx hb dX5_raise_55 rfl hl (by decide) rfl (fun ls hl => ?_)
      refine lv_iconst (v := (-1)) hx hb dX5_raise_56 (by decide) ?_
      refine lv_istore (lv' := [(4, .int (-1)), (3, .int ((f_X5_kin mu a1) &&& mr)), (0, .ref m0), (1, .int a1)]) hx hb dX5_raise_57 hl (by decide) rfl (fun ls hl => ?_)
      refine lv_iconst (v := 0) hx hb dX5_raise_59 (by decide) ?_
      refine lv_istore (lv' := [(5, .int 0), (4, .int (-1)), (3, .int ((f_X5_kin mu a1) &&& mr)), (0, .ref m0), (1, .int a1)]) hx hb dX5_raise_60 hl (by decide) rfl (fun ls hl => ?_)
      obtain ⟨⟨r10_v62_4, r10_v62_5⟩, hL10⟩ : ∃ z, z = f_X5_raise_L62 mr mu mt a1 15 ((-1) : Int32) (0 : Int32) := ⟨_, rfl⟩
      rw [← hL10] at he
      try dsimp only at he
      have hpL10 := hp.1
      replace hp := hp.2 _ _ hL10.symm
      have kont10 : ∀ (x10_v62_4 : Int32) (x10_v62_5 : Int32), (r10_v62_4, r10_v62_5) = (x10_v62_4, x10_v62_5) → ∀ (H : Heap) (locs : List Loc), va_P D vwCl (W_X5 cI m0 m1 m2 m3 m4 m5 m6 m7 m8 m9 m10 m11 mr mc me mw u7_0 mn mu ms mt md mz mi mk mo mj ml) H → va_D A (W_X5 cI m0 m1 m2 m3 m4 m5 m6 m7 m8 m9 m10 m11 mr mc me mw u7_0 mn mu ms mt md mz mi mk mo mj ml) → va_S A s.heap H locs → ∀ ls : Array Slot, lv_has ls 6 [(4, .int x10_v62_4), (3, .int ((f_X5_kin mu a1) &&& mr)), (0, .ref m0), (1, .int a1)] → W p l e (headSpec wsX5_raise rm_X5_raise).room s m ([.ref m0, .int a1] : List Value).toArray below meth c H locs 0 0 (MQ below (Q_X5_raise D cI m0 m1 m2 m3 m4 m5 m6 m7 m8 m9 m10 m11 mr mc me mw mh mn mu ms mt md mz mi mk mo mj ml a1 A) ([.ref m0, .int a1] : List Value).toArray s 0 0 A) (F0 m 115 ls []) := by
        intro x10_v62_4 x10_v62_5 hxe H locs hP hD hS ls hl
        simp only [Prod.mk.injEq] at hxe
        obtain ⟨rfl, rfl⟩ := hxe
        refine lv_iload hx hb dX5_raise_115 (lv_at hl 0 rfl) ?_
        obtain ⟨⟨j20_4, j20_mc, j20_md, j20_mz⟩, hJ20⟩ : ∃ z : Int32 × Int32 × AA × AA, z = (if 0 ≤ r10_v62_4 then (r10_v62_4, mc, md, mz) else ((mc + 1), (mc + 1), (upd md ((mc + 1)).toNatClampNeg 0), (upd mz ((mc + 1)).toNatClampNeg 1))) := ⟨_, rfl⟩
        rw [← hJ20] at he
        try dsimp only at he
        have hpJ20 := hp.1
        replace hp := hp.2 _ _ _ _  hJ20.symm
        have kont20 : ∀ (H : Heap) (locs : List Loc), va_P D vwCl (W_X5 cI m0 m1 m2 m3 m4 m5 m6 m7 m8 m9 m10 m11 mr j20_mc me mw u7_0 mn mu ms mt j20_md j20_mz mi mk mo mj ml) H → va_D A (W_X5 cI m0 m1 m2 m3 m4 m5 m6 m7 m8 m9 m10 m11 mr j20_mc me mw u7_0 mn mu ms mt j20_md j20_mz mi mk mo mj ml) → va_S A s.heap H locs → ∀ ls : Array Slot, lv_has ls 6 [(4, .int j20_4), (3, .int ((f_X5_kin mu a1) &&& mr)), (0, .ref m0), (1, .int a1)] → W p l e (headSpec wsX5_raise rm_X5_raise).room s m ([.ref m0, .int a1] : List Value).toArray below meth c H locs 0 0 (MQ below (Q_X5_raise D cI m0 m1 m2 m3 m4 m5 m6 m7 m8 m9 m10 m11 mr mc me mw mh mn mu ms mt md mz mi mk mo mj ml a1 A) ([.ref m0, .int a1] : List Value).toArray s 0 0 A) (F0 m 152 ls []) := by
          intro H locs hP hD hS ls hl
          refine lv_iload hx hb dX5_raise_152 (lv_at hl 0 rfl) ?_
          refine lv_iconst (v := 1) hx hb dX5_raise_154 (by decide) ?_
          refine lv_iadd hx hb dX5_raise_155 ?_
          refine lv_istore (lv' := [(5, .int (j20_4 + 1)), (4, .int j20_4), (3, .int ((f_X5_kin mu a1) &&& mr)), (0, .ref m0), (1, .int a1)]) hx hb dX5_raise_156 hl (by decide) rfl (fun ls hl => ?_)
          obtain ⟨⟨r24_v158_5, r24_md_158, r24_mz_158, r24_mi_158⟩, hL24⟩ : ∃ z, z = f_X5_raise_L158 mr mu a1 j20_4 j20_mc 302 (j20_4 + 1) j20_md j20_mz mi := ⟨_, rfl⟩
          rw [← hL24] at he
          try dsimp only at he
          have hpL24 := hp.1
          replace hp := hp.2 _ _ _ _ hL24.symm
          have kont24 : ∀ (x24_v158_5 : Int32) (x24_md_158 : AA) (x24_mz_158 : AA) (x24_mi_158 : AA), (r24_v158_5, r24_md_158, r24_mz_158, r24_mi_158) = (x24_v158_5, x24_md_158, x24_mz_158, x24_mi_158) → ∀ (H : Heap) (locs : List Loc), va_P D vwCl (W_X5 cI m0 m1 m2 m3 m4 m5 m6 m7 m8 m9 m10 m11 mr j20_mc me mw u7_0 mn mu ms mt x24_md_158 x24_mz_158 x24_mi_158 mk mo mj ml) H → va_D A (W_X5 cI m0 m1 m2 m3 m4 m5 m6 m7 m8 m9 m10 m11 mr j20_mc me mw u7_0 mn mu ms mt x24_md_158 x24_mz_158 x24_mi_158 mk mo mj ml) → va_S A s.heap H locs → ∀ ls : Array Slot, lv_has ls 6 [(4, .int j20_4), (0, .ref m0), (1, .int a1)] → W p l e (headSpec wsX5_raise rm_X5_raise).room s m ([.ref m0, .int a1] : List Value).toArray below meth c H locs 0 0 (MQ below (Q_X5_raise D cI m0 m1 m2 m3 m4 m5 m6 m7 m8 m9 m10 m11 mr mc me mw mh mn mu ms mt md mz mi mk mo mj ml a1 A) ([.ref m0, .int a1] : List Value).toArray s 0 0 A) (F0 m 238 ls []) := by
            intro x24_v158_5 x24_md_158 x24_mz_158 x24_mi_158 hxe H locs hP hD hS ls hl
            simp only [Prod.mk.injEq] at hxe
            obtain ⟨rfl, rfl, rfl, rfl⟩ := hxe
            refine lv_aload_n hx hb dX5_raise_238 rfl (lv_at hl 1 rfl) ?_
            refine va_get (D := D) (ci := 5) (v := .ref m5) (C := RX5) (T := TX5) (N := 16) hx hb hts (by decide +kernel) hown hK hP 0 rfl rfl 5 (by decide) (hts (.fieldLink RX5 22 "AlarmgroveModel" "nodes" "[I") (by decide +kernel)) (fun _ h9 => h9) rfl dX5_raise_239 ?_
            refine lv_iload hx hb dX5_raise_242 (lv_at hl 0 rfl) ?_
            refine lv_dup2_11 hx hb dX5_raise_244 rfl rfl ?_
            have h36 := hp.1
            replace hp := hp.2
            refine va_iald hx hb hK hP 5 0 rfl rfl h36 dX5_raise_245 ?_
            refine lv_iconst (v := 1) hx hb dX5_raise_246 (by decide) ?_
            refine lv_iload_n hx hb dX5_raise_247 rfl (lv_at hl 2 rfl) ?_
            refine lv_ishl hx hb dX5_raise_248 ?_
            refine lv_ior hx hb dX5_raise_249 ?_
            have h37 := hp.1
            replace hp := hp.2
            refine va_iast hx hb hK hP hD hS 5 0 rfl rfl h37 dX5_raise_250 (fun H locs hP hD hS => ?_)
            have hP : va_P D vwCl (W_X5 cI m0 m1 m2 m3 m4 m5 m6 m7 m8 m9 m10 m11 mr j20_mc me mw u7_0 mn mu ms mt (upd r24_md_158 (j20_4).toNatClampNeg ((r24_md_158 (j20_4).toNatClampNeg) ||| (1 <<< (a1 &&& 31)))) r24_mz_158 r24_mi_158 mk mo mj ml) H := hP
            have hD : va_D A (W_X5 cI m0 m1 m2 m3 m4 m5 m6 m7 m8 m9 m10 m11 mr j20_mc me mw u7_0 mn mu ms mt (upd r24_md_158 (j20_4).toNatClampNeg ((r24_md_158 (j20_4).toNatClampNeg) ||| (1 <<< (a1 &&& 31)))) r24_mz_158 r24_mi_158 mk mo mj ml) := hD
            refine lv_iconst (v := 0) hx hb dX5_raise_251 (by decide) ?_
            refine lv_istore (lv' := [(5, .int 0), (4, .int j20_4), (0, .ref m0), (1, .int a1)]) hx hb dX5_raise_252 hl (by decide) rfl (fun ls hl => ?_)
            obtain ⟨⟨r38_v254_5, r38_mt_254⟩, hL38⟩ : ∃ z, z = f_X5_raise_L254 a1 j20_4 r24_md_158 15 (0 : Int32) mt := ⟨_, rfl⟩
            rw [← hL38] at he
            try dsimp only at he
            have hpL38 := hp.1
            replace hp := hp.2 _ _ hL38.symm
            have kont38 : ∀ (x38_v254_5 : Int32) (x38_mt_254 : AA), (r38_v254_5, r38_mt_254) = (x38_v254_5, x38_mt_254) → ∀ (H : Heap) (locs : List Loc), va_P D vwCl (W_X5 cI m0 m1 m2 m3 m4 m5 m6 m7 m8 m9 m10 m11 mr j20_mc me mw u7_0 mn mu ms x38_mt_254 (upd r24_md_158 (j20_4).toNatClampNeg ((r24_md_158 (j20_4).toNatClampNeg) ||| (1 <<< (a1 &&& 31)))) r24_mz_158 r24_mi_158 mk mo mj ml) H → va_D A (W_X5 cI m0 m1 m2 m3 m4 m5 m6 m7 m8 m9 m10 m11 mr j20_mc me mw u7_0 mn mu ms x38_mt_254 (upd r24_md_158 (j20_4).toNatClampNeg ((r24_md_158 (j20_4).toNatClampNeg) ||| (1 <<< (a1 &&& 31)))) r24_mz_158 r24_mi_158 mk mo mj ml) → va_S A s.heap H locs → ∀ ls : Array Slot, lv_has ls 6 [(4, .int j20_4), (0, .ref m0), (1, .int a1)] → W p l e (headSpec wsX5_raise rm_X5_raise).room s m ([.ref m0, .int a1] : List Value).toArray below meth c H locs 0 0 (MQ below (Q_X5_raise D cI m0 m1 m2 m3 m4 m5 m6 m7 m8 m9 m10 m11 mr mc me mw mh mn mu ms mt md mz mi mk mo mj ml a1 A) ([.ref m0, .int a1] : List Value).toArray s 0 0 A) (F0 m 301 ls []) := by
              intro x38_v254_5 x38_mt_254 hxe H locs hP hD hS ls hl
              simp only [Prod.mk.injEq] at hxe
              obtain ⟨rfl, rfl⟩ := hxe
              refine lv_aload_n hx hb dX5_raise_301 rfl (lv_at hl 1 rfl) ?_
              refine lv_dup hx hb dX5_raise_302 rfl ?_
              refine va_get (D := D) (ci := 5) (v := .int mr) (C := RX5) (T := TX5) (N := 16) hx hb hts (by decide +kernel) hown hK hP 0 rfl rfl 2 (by decide) (hts (.fieldLink RX5 68 "AlarmgroveModel" "raised" "I") (by decide +kernel)) (fun _ h9 => h9) rfl dX5_raise_303 ?_
              refine lv_iconst (v := 1) hx hb dX5_raise_306 (by decide) ?_
              refine lv_iload_n hx hb dX5_raise_307 rfl (lv_at hl 2 rfl) ?_
              refine lv_ishl hx hb dX5_raise_308 ?_
              refine lv_ior hx hb dX5_raise_309 ?_
              refine va_put (D := D) (ci := 5) (v := .int (mr ||| (1 <<< (a1 &&& 31)))) (ty := .int) (C := RX5) (T := TX5) (N := 16) hx hb hts (by decide +kernel) tyX5 tyX5_ok nmX5 hown hK hP hD hS 0 rfl rfl 2 (by decide) (hts (.fieldLink RX5 68 "AlarmgroveModel" "raised" "I") (by decide +kernel)) (fun _ h9 => h9) rfl (by decide +kernel) rfl rfl (Nat.le_of_ble_eq_true rfl) dX5_raise_310 (fun H locs hP hD hS => ?_)
              have hP : va_P D vwCl (W_X5 cI m0 m1 m2 m3 m4 m5 m6 m7 m8 m9 m10 m11 (mr ||| (1 <<< (a1 &&& 31))) j20_mc me mw u7_0 mn mu ms r38_mt_254 (upd r24_md_158 (j20_4).toNatClampNeg ((r24_md_158 (j20_4).toNatClampNeg) ||| (1 <<< (a1 &&& 31)))) r24_mz_158 r24_mi_158 mk mo mj ml) H := hP
              have hD : va_D A (W_X5 cI m0 m1 m2 m3 m4 m5 m6 m7 m8 m9 m10 m11 (mr ||| (1 <<< (a1 &&& 31))) j20_mc me mw u7_0 mn mu ms r38_mt_254 (upd r24_md_158 (j20_4).toNatClampNeg ((r24_md_158 (j20_4).toNatClampNeg) ||| (1 <<< (a1 &&& 31)))) r24_mz_158 r24_mi_158 mk mo mj ml) := hD
              refine lv_aload_n hx hb dX5_raise_313 rfl (lv_at hl 1 rfl) ?_
              refine va_get (D := D) (ci := 5) (v := .ref m3) (C := RX5) (T := TX5) (N := 16) hx hb hts (by decide +kernel) hown hK hP 0 rfl rfl 3 (by decide) (hts (.fieldLink RX5 16 "AlarmgroveModel" "since" "[I") (by decide +kernel)) (fun _ h9 => h9) rfl dX5_raise_314 ?_
              refine lv_iload_n hx hb dX5_raise_317 rfl (lv_at hl 2 rfl) ?_
              refine lv_aload_n hx hb dX5_raise_318 rfl (lv_at hl 1 rfl) ?_
              refine va_get (D := D) (ci := 5) (v := .int mw) (C := RX5) (T := TX5) (N := 16) hx hb hts (by decide +kernel) hown hK hP 0 rfl rfl 14 (by decide) (hts (.fieldLink RX5 62 "AlarmgroveModel" "now" "I") (by decide +kernel)) (fun _ h9 => h9) rfl dX5_raise_319 ?_
              have h46 := hp.1
              replace hp := hp.2
              refine va_iast hx hb hK hP hD hS 3 0 rfl rfl h46 dX5_raise_322 (fun H locs hP hD hS => ?_)
              have hP : va_P D vwCl (W_X5 cI m0 m1 m2 m3 m4 m5 m6 m7 m8 m9 m10 m11 (mr ||| (1 <<< (a1 &&& 31))) j20_mc me mw u7_0 mn mu (upd ms (a1).toNatClampNeg mw) r38_mt_254 (upd r24_md_158 (j20_4).toNatClampNeg ((r24_md_158 (j20_4).toNatClampNeg) ||| (1 <<< (a1 &&& 31)))) r24_mz_158 r24_mi_158 mk mo mj ml) H := hP
              have hD : va_D A (W_X5 cI m0 m1 m2 m3 m4 m5 m6 m7 m8 m9 m10 m11 (mr ||| (1 <<< (a1 &&& 31))) j20_mc me mw u7_0 mn mu (upd ms (a1).toNatClampNeg mw) r38_mt_254 (upd r24_md_158 (j20_4).toNatClampNeg ((r24_md_158 (j20_4).toNatClampNeg) ||| (1 <<< (a1 &&& 31)))) r24_mz_158 r24_mi_158 mk mo mj ml) := hD
              refine lv_aload_n hx hb dX5_raise_323 rfl (lv_at hl 1 rfl) ?_
              refine lv_iconst (v := 0) hx hb dX5_raise_324 (by decide) ?_
              refine lv_iload_n hx hb dX5_raise_325 rfl (lv_at hl 2 rfl) ?_
              refine lv_iconst (v := (-1)) hx hb dX5_raise_326 (by decide) ?_
              have hq47 := hp.1
              replace hp := hp.2
              refine k_callv (S := Int32 × AA × AA × AA × AA) (wc := (W_X5 cI m0 m1 m2 m3 m4 m5 m6 m7 m8 m9 m10 m11 (mr ||| (1 <<< (a1 &&& 31))) j20_mc me mw u7_0 mn mu (upd ms (a1).toNatClampNeg mw) r38_mt_254 (upd r24_md_158 (j20_4).toNatClampNeg ((r24_md_158 (j20_4).toNatClampNeg) ||| (1 <<< (a1 &&& 31)))) r24_mz_158 r24_mi_158 mk mo mj ml)) (wr := ([] : va_W)) (w1 := fun u => (W_X5 cI m0 m1 m2 m3 m4 m5 m6 m7 m8 m9 m10 m11 (mr ||| (1 <<< (a1 &&& 31))) j20_mc u.1 mw u7_0 mn mu (upd ms (a1).toNatClampNeg mw) r38_mt_254 (upd r24_md_158 (j20_4).toNatClampNeg ((r24_md_158 (j20_4).toNatClampNeg) ||| (1 <<< (a1 &&& 31)))) r24_mz_158 r24_mi_158 u.2.1 u.2.2.1 u.2.2.2.1 u.2.2.2.2)) (fun u => (W_X5 cI m0 m1 m2 m3 m4 m5 m6 m7 m8 m9 m10 m11 (mr ||| (1 <<< (a1 &&& 31))) j20_mc u.1 mw u7_0 mn mu (upd ms (a1).toNatClampNeg mw) r38_mt_254 (upd r24_md_158 (j20_4).toNatClampNeg ((r24_md_158 (j20_4).toNatClampNeg) ||| (1 <<< (a1 &&& 31)))) r24_mz_158 r24_mi_158 u.2.1 u.2.2.1 u.2.2.2.1 u.2.2.2.2)) hP hK hD hN hS hA [0, 1, 2, 3, 4, 5, 6, 7, 8, 9, 10, 11] [] rfl rfl (by decide) (by decide) (by decide) [0, 1, 2, 3, 4, 5, 6, 7, 8, 9, 10, 11] (by decide) (fun _ => rfl) (fun hg => va_runV (As := [.int 0, .int a1, .int (-1)]) (rest := []) ⟨hx, hb, hml, hown, hts⟩ (c_X5_notes l D cI m0 m1 m2 m3 m4 m5 m6 m7 m8 m9 m10 m11 (mr ||| (1 <<< (a1 &&& 31))) j20_mc me mw u7_0 mn mu (upd ms (a1).toNatClampNeg mw) r38_mt_254 (upd r24_md_158 (j20_4).toNatClampNeg ((r24_md_158 (j20_4).toNatClampNeg) ||| (1 <<< (a1 &&& 31)))) r24_mz_158 r24_mi_158 mk mo mj ml _ 0 a1 (-1) hq47) (cwV 3 hts gX5_raise_X5_notes rfl rfl rfl (by decide +kernel) ⟨Nat.le_of_ble_eq_true rfl, Nat.le_of_ble_eq_true rfl⟩) ⟨PW.blind, va_recv hK hP (ci := 5) (q0 := 0) rfl rfl, fun U hU hW => ⟨rfl, hg U hU hW⟩⟩ rfl rfl hl.1 rfl (lv_room (Nat.le_of_ble_eq_true rfl)) dX5_raise_327 ⟨Nat.le_of_ble_eq_true rfl, Nat.le_of_ble_eq_true rfl⟩) (fun u H locs hw hP hD hS => ?_)
              obtain ⟨u47_0, u47_1, u47_2, u47_3, u47_4⟩ := u
              rw [hw] at he
              try dsimp only at he
              replace hp := hp u47_0 u47_1 u47_2 u47_3 u47_4 hw
              have hP : va_P D vwCl (W_X5 cI m0 m1 m2 m3 m4 m5 m6 m7 m8 m9 m10 m11 (mr ||| (1 <<< (a1 &&& 31))) j20_mc u47_0 mw u7_0 mn mu (upd ms (a1).toNatClampNeg mw) r38_mt_254 (upd r24_md_158 (j20_4).toNatClampNeg ((r24_md_158 (j20_4).toNatClampNeg) ||| (1 <<< (a1 &&& 31)))) r24_mz_158 r24_mi_158 u47_1 u47_2 u47_3 u47_4) H := hP
              have hD : va_D A (W_X5 cI m0 m1 m2 m3 m4 m5 m6 m7 m8 m9 m10 m11 (mr ||| (1 <<< (a1 &&& 31))) j20_mc u47_0 mw u7_0 mn mu (upd ms (a1).toNatClampNeg mw) r38_mt_254 (upd r24_md_158 (j20_4).toNatClampNeg ((r24_md_158 (j20_4).toNatClampNeg) ||| (1 <<< (a1 &&& 31)))) r24_mz_158 r24_mi_158 u47_1 u47_2 u47_3 u47_4) := hD
              refine lv_iload hx hb dX5_raise_330 (lv_at hl 0 rfl) ?_
              exact W.iret (v := j20_4) hx hb hr (fun t ht hW => ⟨⟨j20_4, ((mr ||| (1 <<< (a1 &&& 31))), j20_mc, u47_0, u7_0, (upd ms (a1).toNatClampNeg mw), r38_mt_254, (upd r24_md_158 (j20_4).toNatClampNeg ((r24_md_158 (j20_4).toNatClampNeg) ||| (1 <<< (a1 &&& 31)))), r24_mz_158, r24_mi_158, u47_1, u47_2, u47_3, u47_4), rfl, he, by rw [ht]; exact hP, va_K.moved hW.alike hK, hD⟩, hS.F ht⟩) hS.2.2 dX5_raise_332
            have loop38 : ∀ (n : Nat) (v254_5 : Int32) (mt_254 : AA), p_X5_raise_L254 a1 j20_4 r24_md_158 n v254_5 mt_254 → (r38_v254_5, r38_mt_254) = f_X5_raise_L254 a1 j20_4 r24_md_158 n v254_5 mt_254 → ∀ (H : Heap) (locs : List Loc), va_P D vwCl (W_X5 cI m0 m1 m2 m3 m4 m5 m6 m7 m8 m9 m10 m11 mr j20_mc me mw u7_0 mn mu ms mt_254 (upd r24_md_158 (j20_4).toNatClampNeg ((r24_md_158 (j20_4).toNatClampNeg) ||| (1 <<< (a1 &&& 31)))) r24_mz_158 r24_mi_158 mk mo mj ml) H → va_D A (W_X5 cI m0 m1 m2 m3 m4 m5 m6 m7 m8 m9 m10 m11 mr j20_mc me mw u7_0 mn mu ms mt_254 (upd r24_md_158 (j20_4).toNatClampNeg ((r24_md_158 (j20_4).toNatClampNeg) ||| (1 <<< (a1 &&& 31)))) r24_mz_158 r24_mi_158 mk mo mj ml) → va_S A s.heap H locs → ∀ ls : Array Slot, lv_has ls 6 [(5, .int v254_5), (4, .int j20_4), (0, .ref m0), (1, .int a1)] → W p l e (headSpec wsX5_raise rm_X5_raise).room s m ([.ref m0, .int a1] : List Value).toArray below meth c H locs 0 0 (MQ below (Q_X5_raise D cI m0 m1 m2 m3 m4 m5 m6 m7 m8 m9 m10 m11 mr mc me mw mh mn mu ms mt md mz mi mk mo mj ml a1 A) ([.ref m0, .int a1] : List Value).toArray s 0 0 A) (F0 m 254 ls []) := by
              intro n
              induction n with
              | zero => exact fun _ _ hp => hp.elim
              | succ n ih =>
                intro v254_5 mt_254 hp he H locs hP hD hS ls hl
                replace hp := Eq.mp (p_X5_raise_L254.eq_2 ..) hp
                replace he := he.trans (f_X5_raise_L254.eq_2 ..)
                refine lv_iload hx hb dX5_raise_254 (lv_at hl 0 rfl) ?_
                refine lv_bipush (v := 14) hx hb dX5_raise_256 (by decide) ?_
                refine lv_icmp_ge (tgt := 301) hx hb dX5_raise_258 (by decide) (fun c39 => ?_) (fun c39 => ?_)
                · replace hp := hp.1 c39
                  replace he := he.trans (if_pos c39)
                  exact kont38 _ _ he _ _ hP hD hS _ (lv_sub hl [1, 2, 3] rfl)
                · replace hp := hp.2 c39
                  replace he := he.trans (if_neg c39)
                  refine lv_aload_n hx hb dX5_raise_261 rfl (lv_at hl 2 rfl) ?_
                  refine va_get (D := D) (ci := 5) (v := .ref m4) (C := RX5) (T := TX5) (N := 16) hx hb hts (by decide +kernel) hown hK hP 0 rfl rfl 4 (by decide) (hts (.fieldLink RX5 19 "AlarmgroveModel" "ticket" "[I") (by decide +kernel)) (fun _ h9 => h9) rfl dX5_raise_262 ?_
                  refine lv_iload hx hb dX5_raise_265 (lv_at hl 0 rfl) ?_
                  refine lv_aload_n hx hb dX5_raise_267 rfl (lv_at hl 2 rfl) ?_
                  refine va_get (D := D) (ci := 5) (v := .ref m5) (C := RX5) (T := TX5) (N := 16) hx hb hts (by decide +kernel) hown hK hP 0 rfl rfl 5 (by decide) (hts (.fieldLink RX5 22 "AlarmgroveModel" "nodes" "[I") (by decide +kernel)) (fun _ h9 => h9) rfl dX5_raise_268 ?_
                  refine lv_iload hx hb dX5_raise_271 (lv_at hl 1 rfl) ?_
                  have h40 := hp.1
                  replace hp := hp.2
                  refine va_iald hx hb hK hP 5 0 rfl rfl h40 dX5_raise_273 ?_
                  refine lv_iload hx hb dX5_raise_274 (lv_at hl 0 rfl) ?_
                  refine k_calli (S := Unit) (wc := ([] : va_W)) (wr := (W_X5 cI m0 m1 m2 m3 m4 m5 m6 m7 m8 m9 m10 m11 mr j20_mc me mw u7_0 mn mu ms mt_254 (upd r24_md_158 (j20_4).toNatClampNeg ((r24_md_158 (j20_4).toNatClampNeg) ||| (1 <<< (a1 &&& 31)))) r24_mz_158 r24_mi_158 mk mo mj ml)) (w1 := fun u => ([] : va_W)) (fun u => (W_X5 cI m0 m1 m2 m3 m4 m5 m6 m7 m8 m9 m10 m11 mr j20_mc me mw u7_0 mn mu ms mt_254 (upd r24_md_158 (j20_4).toNatClampNeg ((r24_md_158 (j20_4).toNatClampNeg) ||| (1 <<< (a1 &&& 31)))) r24_mz_158 r24_mi_158 mk mo mj ml)) hP hK hD hN hS hA [] [0, 1, 2, 3, 4, 5, 6, 7, 8, 9, 10, 11] rfl rfl (by decide) (by decide) (by decide) [0, 1, 2, 3, 4, 5, 6, 7, 8, 9, 10, 11] (by decide) (fun _ => rfl) (fun hg => va_runS (As := [.int ((upd r24_md_158 (j20_4).toNatClampNeg ((r24_md_158 (j20_4).toNatClampNeg) ||| (1 <<< (a1 &&& 31)))) (j20_4).toNatClampNeg), .int v254_5]) (rest := [.int v254_5, .ref m4]) ⟨hx, hb, hml, hown, hts⟩ (c_X5_has l D cI _ ((upd r24_md_158 (j20_4).toNatClampNeg ((r24_md_158 (j20_4).toNatClampNeg) ||| (1 <<< (a1 &&& 31)))) (j20_4).toNatClampNeg) v254_5) (va_cwS 2 hts gX5_raise_X5_has rfl rfl rfl (by decide +kernel) ⟨Nat.le_of_ble_eq_true rfl, Nat.le_of_ble_eq_true rfl⟩) ⟨PW.blind, fun U hU hW => ⟨rfl, hg U hU hW⟩⟩ rfl rfl hl.1 rfl (lv_room (Nat.le_of_ble_eq_true rfl)) dX5_raise_276 ⟨Nat.le_of_ble_eq_true rfl, Nat.le_of_ble_eq_true rfl⟩) (fun r41 u H locs hw hP hD hS => ?_)
                  obtain ⟨hw, hb41⟩ := hw
                  subst hw
                  obtain ⟨j42, hJ42⟩ : ∃ z : Int32, z = (if (f_X5_has ((upd r24_md_158 (j20_4).toNatClampNeg ((r24_md_158 (j20_4).toNatClampNeg) ||| (1 <<< (a1 &&& 31)))) (j20_4).toNatClampNeg) v254_5) = 0 then (mt_254 (v254_5).toNatClampNeg) else j20_4) := ⟨_, rfl⟩
                  rw [← hJ42] at he
                  try dsimp only at he
                  have hpJ42 := hp.1
                  replace hp := hp.2 _  hJ42.symm
                  have kont42 : ∀ (H : Heap) (locs : List Loc), va_P D vwCl (W_X5 cI m0 m1 m2 m3 m4 m5 m6 m7 m8 m9 m10 m11 mr j20_mc me mw u7_0 mn mu ms mt_254 (upd r24_md_158 (j20_4).toNatClampNeg ((r24_md_158 (j20_4).toNatClampNeg) ||| (1 <<< (a1 &&& 31)))) r24_mz_158 r24_mi_158 mk mo mj ml) H → va_D A (W_X5 cI m0 m1 m2 m3 m4 m5 m6 m7 m8 m9 m10 m11 mr j20_mc me mw u7_0 mn mu ms mt_254 (upd r24_md_158 (j20_4).toNatClampNeg ((r24_md_158 (j20_4).toNatClampNeg) ||| (1 <<< (a1 &&& 31)))) r24_mz_158 r24_mi_158 mk mo mj ml) → va_S A s.heap H locs → ∀ ls : Array Slot, lv_has ls 6 [(5, .int v254_5), (4, .int j20_4), (0, .ref m0), (1, .int a1)] → W p l e (headSpec wsX5_raise rm_X5_raise).room s m ([.ref m0, .int a1] : List Value).toArray below meth c H locs 0 0 (MQ below (Q_X5_raise D cI m0 m1 m2 m3 m4 m5 m6 m7 m8 m9 m10 m11 mr mc me mw mh mn mu ms mt md mz mi mk mo mj ml a1 A) ([.ref m0, .int a1] : List Value).toArray s 0 0 A) (F0 m 294 ls [.int j42, .int v254_5, .ref m4]) := by
                    intro H locs hP hD hS ls hl
                    have h45 := hp.1
                    replace hp := hp.2
                    refine va_iast hx hb hK hP hD hS 4 0 rfl rfl h45 dX5_raise_294 (fun H locs hP hD hS => ?_)
                    have hP : va_P D vwCl (W_X5 cI m0 m1 m2 m3 m4 m5 m6 m7 m8 m9 m10 m11 mr j20_mc me mw u7_0 mn mu ms (upd mt_254 (v254_5).toNatClampNeg j42) (upd r24_md_158 (j20_4).toNatClampNeg ((r24_md_158 (j20_4).toNatClampNeg) ||| (1 <<< (a1 &&& 31)))) r24_mz_158 r24_mi_158 mk mo mj ml) H := hP
                    have hD : va_D A (W_X5 cI m0 m1 m2 m3 m4 m5 m6 m7 m8 m9 m10 m11 mr j20_mc me mw u7_0 mn mu ms (upd mt_254 (v254_5).toNatClampNeg j42) (upd r24_md_158 (j20_4).toNatClampNeg ((r24_md_158 (j20_4).toNatClampNeg) ||| (1 <<< (a1 &&& 31)))) r24_mz_158 r24_mi_158 mk mo mj ml) := hD
                    refine lv_iinc (v := (v254_5 + 1)) (lv' := [(5, .int (v254_5 + 1)), (4, .int j20_4), (0, .ref m0), (1, .int a1)]) hx hb dX5_raise_295 hl (k := 0) rfl rfl (by decide) rfl (fun ls hl => ?_)
                    refine lv_goto (tgt := 254) hx hb dX5_raise_298 (by decide) ?_
                    exact ih _ _ hp he _ _ hP hD hS _ (lv_sub hl [0, 1, 2, 3] rfl)
                  replace he := hJ42
                  replace hp := hpJ42
                  refine lv_if_eq (tgt := 287) hx hb dX5_raise_279 (by decide) (fun c43 => ?_) (fun c43 => ?_)
                  · replace hp := hp.1 c43
                    replace he := he.trans (if_pos c43)
                    refine lv_aload_n hx hb dX5_raise_287 rfl (lv_at hl 2 rfl) ?_
                    refine va_get (D := D) (ci := 5) (v := .ref m4) (C := RX5) (T := TX5) (N := 16) hx hb hts (by decide +kernel) hown hK hP 0 rfl rfl 4 (by decide) (hts (.fieldLink RX5 19 "AlarmgroveModel" "ticket" "[I") (by decide +kernel)) (fun _ h9 => h9) rfl dX5_raise_288 ?_
                    refine lv_iload hx hb dX5_raise_291 (lv_at hl 0 rfl) ?_
                    have h44 := hp.1
                    replace hp := hp.2
                    refine va_iald hx hb hK hP 4 0 rfl rfl h44 dX5_raise_293 ?_
                    subst he
                    exact kont42 _ _ hP hD hS _ (lv_sub hl [0, 1, 2, 3] rfl)
                  · replace hp := hp.2 c43
                    replace he := he.trans (if_neg c43)
                    refine lv_iload hx hb dX5_raise_282 (lv_at hl 1 rfl) ?_
                    refine lv_goto (tgt := 294) hx hb dX5_raise_284 (by decide) ?_
                    subst he
                    exact kont42 _ _ hP hD hS _ (lv_sub hl [0, 1, 2, 3] rfl)
            exact loop38 15 (0 : Int32) mt hpL38 hL38 _ _ hP hD hS _ (lv_sub hl [0, 1, 2, 3] rfl)
          have loop24 : ∀ (n : Nat) (v158_5 : Int32) (md_158 : AA) (mz_158 : AA) (mi_158 : AA), p_X5_raise_L158 mr mu a1 j20_4 j20_mc n v158_5 md_158 mz_158 mi_158 → (r24_v158_5, r24_md_158, r24_mz_158, r24_mi_158) = f_X5_raise_L158 mr mu a1 j20_4 j20_mc n v158_5 md_158 mz_158 mi_158 → ∀ (H : Heap) (locs : List Loc), va_P D vwCl (W_X5 cI m0 m1 m2 m3 m4 m5 m6 m7 m8 m9 m10 m11 mr j20_mc me mw u7_0 mn mu ms mt md_158 mz_158 mi_158 mk mo mj ml) H → va_D A (W_X5 cI m0 m1 m2 m3 m4 m5 m6 m7 m8 m9 m10 m11 mr j20_mc me mw u7_0 mn mu ms mt md_158 mz_158 mi_158 mk mo mj ml) → va_S A s.heap H locs → ∀ ls : Array Slot, lv_has ls 6 [(5, .int v158_5), (4, .int j20_4), (3, .int ((f_X5_kin mu a1) &&& mr)), (0, .ref m0), (1, .int a1)] → W p l e (headSpec wsX5_raise rm_X5_raise).room s m ([.ref m0, .int a1] : List Value).toArray below meth c H locs 0 0 (MQ below (Q_X5_raise D cI m0 m1 m2 m3 m4 m5 m6 m7 m8 m9 m10 m11 mr mc me mw mh mn mu ms mt md mz mi mk mo mj ml a1 A) ([.ref m0, .int a1] : List Value).toArray s 0 0 A) (F0 m 158 ls []) := by
            intro n
            induction n with
            | zero => exact fun _ _ _ _ hp => hp.elim
            | succ n ih =>
              intro v158_5 md_158 mz_158 mi_158 hp he H locs hP hD hS ls hl
              replace hp := Eq.mp (p_X5_raise_L158.eq_2 ..) hp
              replace he := he.trans (f_X5_raise_L158.eq_2 ..)
              refine lv_iload hx hb dX5_raise_158 (lv_at hl 0 rfl) ?_
              refine lv_aload_n hx hb dX5_raise_160 rfl (lv_at hl 3 rfl) ?_
              refine va_get (D := D) (ci := 5) (v := .int j20_mc) (C := RX5) (T := TX5) (N := 16) hx hb hts (by decide +kernel) hown hK hP 0 rfl rfl 8 (by decide) (hts (.fieldLink RX5 75 "AlarmgroveModel" "tickets" "I") (by decide +kernel)) (fun _ h9 => h9) rfl dX5_raise_161 ?_
              refine lv_icmp_gt (tgt := 238) hx hb dX5_raise_164 (by decide) (fun c25 => ?_) (fun c25 => ?_)
              · replace hp := hp.1 c25
                replace he := he.trans (if_pos c25)
                exact kont24 _ _ _ _ he _ _ hP hD hS _ (lv_sub hl [1, 3, 4] rfl)
              · replace hp := hp.2 c25
                replace he := he.trans (if_neg c25)
                refine lv_aload_n hx hb dX5_raise_167 rfl (lv_at hl 3 rfl) ?_
                refine va_get (D := D) (ci := 5) (v := .ref m6) (C := RX5) (T := TX5) (N := 16) hx hb hts (by decide +kernel) hown hK hP 0 rfl rfl 6 (by decide) (hts (.fieldLink RX5 25 "AlarmgroveModel" "states" "[I") (by decide +kernel)) (fun _ h9 => h9) rfl dX5_raise_168 ?_
                refine lv_iload hx hb dX5_raise_171 (lv_at hl 0 rfl) ?_
                have h26 := hp.1
                replace hp := hp.2
                refine va_iald hx hb hK hP 6 0 rfl rfl h26 dX5_raise_173 ?_
                refine lv_iconst (v := 1) hx hb dX5_raise_174 (by decide) ?_
                refine lv_icmp_ne (tgt := 232) hx hb dX5_raise_175 (by decide) (fun c27 => ?_) (fun c27 => ?_)
                · replace hp := hp.2 c27
                  replace he := he.trans (if_neg c27)
                  refine lv_iinc (v := (v158_5 + 1)) (lv' := [(5, .int (v158_5 + 1)), (4, .int j20_4), (3, .int ((f_X5_kin mu a1) &&& mr)), (0, .ref m0), (1, .int a1)]) hx hb dX5_raise_232 hl (k := 0) rfl rfl (by decide) rfl (fun ls hl => ?_)
                  refine lv_goto (tgt := 158) hx hb dX5_raise_235 (by decide) ?_
                  exact ih _ _ _ _ hp he _ _ hP hD hS _ (lv_sub hl [0, 1, 2, 3, 4] rfl)
                · replace hp := hp.1 c27
                  replace he := he.trans (if_pos c27)
                  refine lv_aload_n hx hb dX5_raise_178 rfl (lv_at hl 3 rfl) ?_
                  refine va_get (D := D) (ci := 5) (v := .ref m5) (C := RX5) (T := TX5) (N := 16) hx hb hts (by decide +kernel) hown hK hP 0 rfl rfl 5 (by decide) (hts (.fieldLink RX5 22 "AlarmgroveModel" "nodes" "[I") (by decide +kernel)) (fun _ h9 => h9) rfl dX5_raise_179 ?_
                  refine lv_iload hx hb dX5_raise_182 (lv_at hl 0 rfl) ?_
                  have h28 := hp.1
                  replace hp := hp.2
                  refine va_iald hx hb hK hP 5 0 rfl rfl h28 dX5_raise_184 ?_
                  refine lv_iload_n hx hb dX5_raise_185 rfl (lv_at hl 2 rfl) ?_
                  refine lv_iand hx hb dX5_raise_186 ?_
                  refine lv_if_eq (tgt := 232) hx hb dX5_raise_187 (by decide) (fun c29 => ?_) (fun c29 => ?_)
                  · replace hp := hp.1 c29
                    replace he := he.trans (if_pos c29)
                    refine lv_iinc (v := (v158_5 + 1)) (lv' := [(5, .int (v158_5 + 1)), (4, .int j20_4), (3, .int ((f_X5_kin mu a1) &&& mr)), (0, .ref m0), (1, .int a1)]) hx hb dX5_raise_232 hl (k := 0) rfl rfl (by decide) rfl (fun ls hl => ?_)
                    refine lv_goto (tgt := 158) hx hb dX5_raise_235 (by decide) ?_
                    exact ih _ _ _ _ hp he _ _ hP hD hS _ (lv_sub hl [0, 1, 2, 3, 4] rfl)
                  · replace hp := hp.2 c29
                    replace he := he.trans (if_neg c29)
                    refine lv_aload_n hx hb dX5_raise_190 rfl (lv_at hl 3 rfl) ?_
                    refine va_get (D := D) (ci := 5) (v := .ref m5) (C := RX5) (T := TX5) (N := 16) hx hb hts (by decide +kernel) hown hK hP 0 rfl rfl 5 (by decide) (hts (.fieldLink RX5 22 "AlarmgroveModel" "nodes" "[I") (by decide +kernel)) (fun _ h9 => h9) rfl dX5_raise_191 ?_
                    refine lv_iload hx hb dX5_raise_194 (lv_at hl 1 rfl) ?_
                    refine lv_dup2_11 hx hb dX5_raise_196 rfl rfl ?_
                    have h30 := hp.1
                    replace hp := hp.2
                    refine va_iald hx hb hK hP 5 0 rfl rfl h30 dX5_raise_197 ?_
                    refine lv_aload_n hx hb dX5_raise_198 rfl (lv_at hl 3 rfl) ?_
                    refine va_get (D := D) (ci := 5) (v := .ref m5) (C := RX5) (T := TX5) (N := 16) hx hb hts (by decide +kernel) hown hK hP 0 rfl rfl 5 (by decide) (hts (.fieldLink RX5 22 "AlarmgroveModel" "nodes" "[I") (by decide +kernel)) (fun _ h9 => h9) rfl dX5_raise_199 ?_
                    refine lv_iload hx hb dX5_raise_202 (lv_at hl 0 rfl) ?_
                    have h31 := hp.1
                    replace hp := hp.2
                    refine va_iald hx hb hK hP 5 0 rfl rfl h31 dX5_raise_204 ?_
                    refine lv_ior hx hb dX5_raise_205 ?_
                    have h32 := hp.1
                    replace hp := hp.2
                    refine va_iast hx hb hK hP hD hS 5 0 rfl rfl h32 dX5_raise_206 (fun H locs hP hD hS => ?_)
                    have hP : va_P D vwCl (W_X5 cI m0 m1 m2 m3 m4 m5 m6 m7 m8 m9 m10 m11 mr j20_mc me mw u7_0 mn mu ms mt (upd md_158 (j20_4).toNatClampNeg ((md_158 (j20_4).toNatClampNeg) ||| (md_158 (v158_5).toNatClampNeg))) mz_158 mi_158 mk mo mj ml) H := hP
                    have hD : va_D A (W_X5 cI m0 m1 m2 m3 m4 m5 m6 m7 m8 m9 m10 m11 mr j20_mc me mw u7_0 mn mu ms mt (upd md_158 (j20_4).toNatClampNeg ((md_158 (j20_4).toNatClampNeg) ||| (md_158 (v158_5).toNatClampNeg))) mz_158 mi_158 mk mo mj ml) := hD
                    refine lv_aload_n hx hb dX5_raise_207 rfl (lv_at hl 3 rfl) ?_
                    refine va_get (D := D) (ci := 5) (v := .ref m5) (C := RX5) (T := TX5) (N := 16) hx hb hts (by decide +kernel) hown hK hP 0 rfl rfl 5 (by decide) (hts (.fieldLink RX5 22 "AlarmgroveModel" "nodes" "[I") (by decide +kernel)) (fun _ h9 => h9) rfl dX5_raise_208 ?_
                    refine lv_iload hx hb dX5_raise_211 (lv_at hl 0 rfl) ?_
                    refine lv_iconst (v := 0) hx hb dX5_raise_213 (by decide) ?_
                    have h33 := hp.1
                    replace hp := hp.2
                    refine va_iast hx hb hK hP hD hS 5 0 rfl rfl h33 dX5_raise_214 (fun H locs hP hD hS => ?_)
                    have hP : va_P D vwCl (W_X5 cI m0 m1 m2 m3 m4 m5 m6 m7 m8 m9 m10 m11 mr j20_mc me mw u7_0 mn mu ms mt (upd (upd md_158 (j20_4).toNatClampNeg ((md_158 (j20_4).toNatClampNeg) ||| (md_158 (v158_5).toNatClampNeg))) (v158_5).toNatClampNeg 0) mz_158 mi_158 mk mo mj ml) H := hP
                    have hD : va_D A (W_X5 cI m0 m1 m2 m3 m4 m5 m6 m7 m8 m9 m10 m11 mr j20_mc me mw u7_0 mn mu ms mt (upd (upd md_158 (j20_4).toNatClampNeg ((md_158 (j20_4).toNatClampNeg) ||| (md_158 (v158_5).toNatClampNeg))) (v158_5).toNatClampNeg 0) mz_158 mi_158 mk mo mj ml) := hD
                    refine lv_aload_n hx hb dX5_raise_215 rfl (lv_at hl 3 rfl) ?_
                    refine va_get (D := D) (ci := 5) (v := .ref m6) (C := RX5) (T := TX5) (N := 16) hx hb hts (by decide +kernel) hown hK hP 0 rfl rfl 6 (by decide) (hts (.fieldLink RX5 25 "AlarmgroveModel" "states" "[I") (by decide +kernel)) (fun _ h9 => h9) rfl dX5_raise_216 ?_
                    refine lv_iload hx hb dX5_raise_219 (lv_at hl 0 rfl) ?_
                    refine lv_iconst (v := 3) hx hb dX5_raise_221 (by decide) ?_
                    have h34 := hp.1
                    replace hp := hp.2
                    refine va_iast hx hb hK hP hD hS 6 0 rfl rfl h34 dX5_raise_222 (fun H locs hP hD hS => ?_)
                    have hP : va_P D vwCl (W_X5 cI m0 m1 m2 m3 m4 m5 m6 m7 m8 m9 m10 m11 mr j20_mc me mw u7_0 mn mu ms mt (upd (upd md_158 (j20_4).toNatClampNeg ((md_158 (j20_4).toNatClampNeg) ||| (md_158 (v158_5).toNatClampNeg))) (v158_5).toNatClampNeg 0) (upd mz_158 (v158_5).toNatClampNeg 3) mi_158 mk mo mj ml) H := hP
                    have hD : va_D A (W_X5 cI m0 m1 m2 m3 m4 m5 m6 m7 m8 m9 m10 m11 mr j20_mc me mw u7_0 mn mu ms mt (upd (upd md_158 (j20_4).toNatClampNeg ((md_158 (j20_4).toNatClampNeg) ||| (md_158 (v158_5).toNatClampNeg))) (v158_5).toNatClampNeg 0) (upd mz_158 (v158_5).toNatClampNeg 3) mi_158 mk mo mj ml) := hD
                    refine lv_aload_n hx hb dX5_raise_223 rfl (lv_at hl 3 rfl) ?_
                    refine va_get (D := D) (ci := 5) (v := .ref m7) (C := RX5) (T := TX5) (N := 16) hx hb hts (by decide +kernel) hown hK hP 0 rfl rfl 7 (by decide) (hts (.fieldLink RX5 28 "AlarmgroveModel" "into" "[I") (by decide +kernel)) (fun _ h9 => h9) rfl dX5_raise_224 ?_
                    refine lv_iload hx hb dX5_raise_227 (lv_at hl 0 rfl) ?_
                    refine lv_iload hx hb dX5_raise_229 (lv_at hl 1 rfl) ?_
                    have h35 := hp.1
                    replace hp := hp.2
                    refine va_iast hx hb hK hP hD hS 7 0 rfl rfl h35 dX5_raise_231 (fun H locs hP hD hS => ?_)
                    have hP : va_P D vwCl (W_X5 cI m0 m1 m2 m3 m4 m5 m6 m7 m8 m9 m10 m11 mr j20_mc me mw u7_0 mn mu ms mt (upd (upd md_158 (j20_4).toNatClampNeg ((md_158 (j20_4).toNatClampNeg) ||| (md_158 (v158_5).toNatClampNeg))) (v158_5).toNatClampNeg 0) (upd mz_158 (v158_5).toNatClampNeg 3) (upd mi_158 (v158_5).toNatClampNeg j20_4) mk mo mj ml) H := hP
                    have hD : va_D A (W_X5 cI m0 m1 m2 m3 m4 m5 m6 m7 m8 m9 m10 m11 mr j20_mc me mw u7_0 mn mu ms mt (upd (upd md_158 (j20_4).toNatClampNeg ((md_158 (j20_4).toNatClampNeg) ||| (md_158 (v158_5).toNatClampNeg))) (v158_5).toNatClampNeg 0) (upd mz_158 (v158_5).toNatClampNeg 3) (upd mi_158 (v158_5).toNatClampNeg j20_4) mk mo mj ml) := hD
                    refine lv_iinc (v := (v158_5 + 1)) (lv' := [(5, .int (v158_5 + 1)), (4, .int j20_4), (3, .int ((f_X5_kin mu a1) &&& mr)), (0, .ref m0), (1, .int a1)]) hx hb dX5_raise_232 hl (k := 0) rfl rfl (by decide) rfl (fun ls hl => ?_)
                    refine lv_goto (tgt := 158) hx hb dX5_raise_235 (by decide) ?_
                    exact ih _ _ _ _ hp he _ _ hP hD hS _ (lv_sub hl [0, 1, 2, 3, 4] rfl)
          exact loop24 302 (j20_4 + 1) j20_md j20_mz mi hpL24 hL24 _ _ hP hD hS _ (lv_sub hl [0, 1, 2, 3, 4] rfl)
        replace he := hJ20
        replace hp := hpJ20
        refine lv_if_ge (tgt := 152) hx hb dX5_raise_117 (by decide) (fun c21 => ?_) (fun c21 => ?_)
        · replace hp := hp.1 c21
          replace he := he.trans (if_pos c21)
          simp only [Prod.mk.injEq] at he
          obtain ⟨rfl, rfl, rfl, rfl⟩ := he
          exact kont20 _ _ hP hD hS _ (lv_sub hl [0, 1, 2, 3] rfl)
        · replace hp := hp.2 c21
          replace he := he.trans (if_neg c21)
          refine lv_aload_n hx hb dX5_raise_120 rfl (lv_at hl 2 rfl) ?_
          refine lv_dup hx hb dX5_raise_121 rfl ?_
          refine va_get (D := D) (ci := 5) (v := .int mc) (C := RX5) (T := TX5) (N := 16) hx hb hts (by decide +kernel) hown hK hP 0 rfl rfl 8 (by decide) (hts (.fieldLink RX5 75 "AlarmgroveModel" "tickets" "I") (by decide +kernel)) (fun _ h9 => h9) rfl dX5_raise_122 ?_
          refine lv_iconst (v := 1) hx hb dX5_raise_125 (by decide) ?_
          refine lv_iadd hx hb dX5_raise_126 ?_
          refine va_put (D := D) (ci := 5) (v := .int (mc + 1)) (ty := .int) (C := RX5) (T := TX5) (N := 16) hx hb hts (by decide +kernel) tyX5 tyX5_ok nmX5 hown hK hP hD hS 0 rfl rfl 8 (by decide) (hts (.fieldLink RX5 75 "AlarmgroveModel" "tickets" "I") (by decide +kernel)) (fun _ h9 => h9) rfl (by decide +kernel) rfl rfl (Nat.le_of_ble_eq_true rfl) dX5_raise_127 (fun H locs hP hD hS => ?_)
          have hP : va_P D vwCl (W_X5 cI m0 m1 m2 m3 m4 m5 m6 m7 m8 m9 m10 m11 mr (mc + 1) me mw u7_0 mn mu ms mt md mz mi mk mo mj ml) H := hP
          have hD : va_D A (W_X5 cI m0 m1 m2 m3 m4 m5 m6 m7 m8 m9 m10 m11 mr (mc + 1) me mw u7_0 mn mu ms mt md mz mi mk mo mj ml) := hD
          refine lv_aload_n hx hb dX5_raise_130 rfl (lv_at hl 2 rfl) ?_
          refine va_get (D := D) (ci := 5) (v := .int (mc + 1)) (C := RX5) (T := TX5) (N := 16) hx hb hts (by decide +kernel) hown hK hP 0 rfl rfl 8 (by decide) (hts (.fieldLink RX5 75 "AlarmgroveModel" "tickets" "I") (by decide +kernel)) (fun _ h9 => h9) rfl dX5_raise_131 ?_
          refine lv_istore (lv' := [(4, .int (mc + 1)), (3, .int ((f_X5_kin mu a1) &&& mr)), (0, .ref m0), (1, .int a1)]) hx hb dX5_raise_134 hl (by decide) rfl (fun ls hl => ?_)
          refine lv_aload_n hx hb dX5_raise_136 rfl (lv_at hl 2 rfl) ?_
          refine va_get (D := D) (ci := 5) (v := .ref m6) (C := RX5) (T := TX5) (N := 16) hx hb hts (by decide +kernel) hown hK hP 0 rfl rfl 6 (by decide) (hts (.fieldLink RX5 25 "AlarmgroveModel" "states" "[I") (by decide +kernel)) (fun _ h9 => h9) rfl dX5_raise_137 ?_
          refine lv_iload hx hb dX5_raise_140 (lv_at hl 0 rfl) ?_
          refine lv_iconst (v := 1) hx hb dX5_raise_142 (by decide) ?_
          have h22 := hp.1
          replace hp := hp.2
          refine va_iast hx hb hK hP hD hS 6 0 rfl rfl h22 dX5_raise_143 (fun H locs hP hD hS => ?_)
          have hP : va_P D vwCl (W_X5 cI m0 m1 m2 m3 m4 m5 m6 m7 m8 m9 m10 m11 mr (mc + 1) me mw u7_0 mn mu ms mt md (upd mz ((mc + 1)).toNatClampNeg 1) mi mk mo mj ml) H := hP
          have hD : va_D A (W_X5 cI m0 m1 m2 m3 m4 m5 m6 m7 m8 m9 m10 m11 mr (mc + 1) me mw u7_0 mn mu ms mt md (upd mz ((mc + 1)).toNatClampNeg 1) mi mk mo mj ml) := hD
          refine lv_aload_n hx hb dX5_raise_144 rfl (lv_at hl 2 rfl) ?_
          refine va_get (D := D) (ci := 5) (v := .ref m5) (C := RX5) (T := TX5) (N := 16) hx hb hts (by decide +kernel) hown hK hP 0 rfl rfl 5 (by decide) (hts (.fieldLink RX5 22 "AlarmgroveModel" "nodes" "[I") (by decide +kernel)) (fun _ h9 => h9) rfl dX5_raise_145 ?_
          refine lv_iload hx hb dX5_raise_148 (lv_at hl 0 rfl) ?_
          refine lv_iconst (v := 0) hx hb dX5_raise_150 (by decide) ?_
          have h23 := hp.1
          replace hp := hp.2
          refine va_iast hx hb hK hP hD hS 5 0 rfl rfl h23 dX5_raise_151 (fun H locs hP hD hS => ?_)
          have hP : va_P D vwCl (W_X5 cI m0 m1 m2 m3 m4 m5 m6 m7 m8 m9 m10 m11 mr (mc + 1) me mw u7_0 mn mu ms mt (upd md ((mc + 1)).toNatClampNeg 0) (upd mz ((mc + 1)).toNatClampNeg 1) mi mk mo mj ml) H := hP
          have hD : va_D A (W_X5 cI m0 m1 m2 m3 m4 m5 m6 m7 m8 m9 m10 m11 mr (mc + 1) me mw u7_0 mn mu ms mt (upd md ((mc + 1)).toNatClampNeg 0) (upd mz ((mc + 1)).toNatClampNeg 1) mi mk mo mj ml) := hD
          simp only [Prod.mk.injEq] at he
          obtain ⟨rfl, rfl, rfl, rfl⟩ := he
          exact kont20 _ _ hP hD hS _ (lv_sub hl [0, 1, 2, 3] rfl)
      have loop10 : ∀ (n : Nat) (v62_4 : Int32) (v62_5 : Int32), p_X5_raise_L62 mr mu mt a1 n v62_4 v62_5 → (r10_v62_4, r10_v62_5) = f_X5_raise_L62 mr mu mt a1 n v62_4 v62_5 → ∀ (H : Heap) (locs : List Loc), va_P D vwCl (W_X5 cI m0 m1 m2 m3 m4 m5 m6 m7 m8 m9 m10 m11 mr mc me mw u7_0 mn mu ms mt md mz mi mk mo mj ml) H → va_D A (W_X5 cI m0 m1 m2 m3 m4 m5 m6 m7 m8 m9 m10 m11 mr mc me mw u7_0 mn mu ms mt md mz mi mk mo mj ml) → va_S A s.heap H locs → ∀ ls : Array Slot, lv_has ls 6 [(5, .int v62_5), (4, .int v62_4), (3, .int ((f_X5_kin mu a1) &&& mr)), (0, .ref m0), (1, .int a1)] → W p l e (headSpec wsX5_raise rm_X5_raise).room s m ([.ref m0, .int a1] : List Value).toArray below meth c H locs 0 0 (MQ below (Q_X5_raise D cI m0 m1 m2 m3 m4 m5 m6 m7 m8 m9 m10 m11 mr mc me mw mh mn mu ms mt md mz mi mk mo mj ml a1 A) ([.ref m0, .int a1] : List Value).toArray s 0 0 A) (F0 m 62 ls []) := by
        intro n
        induction n with
        | zero => exact fun _ _ hp => hp.elim
        | succ n ih =>
          intro v62_4 v62_5 hp he H locs hP hD hS ls hl
          replace hp := Eq.mp (p_X5_raise_L62.eq_2 ..) hp
          replace he := he.trans (f_X5_raise_L62.eq_2 ..)
          refine lv_iload hx hb dX5_raise_62 (lv_at hl 0 rfl) ?_
          refine lv_bipush (v := 14) hx hb dX5_raise_64 (by decide) ?_
          refine lv_icmp_ge (tgt := 115) hx hb dX5_raise_66 (by decide) (fun c11 => ?_) (fun c11 => ?_)
          · replace hp := hp.1 c11
            replace he := he.trans (if_pos c11)
            exact kont10 _ _ he _ _ hP hD hS _ (lv_sub hl [1, 2, 3, 4] rfl)
          · replace hp := hp.2 c11
            replace he := he.trans (if_neg c11)
            refine lv_iload_n hx hb dX5_raise_69 rfl (lv_at hl 2 rfl) ?_
            refine lv_iload hx hb dX5_raise_70 (lv_at hl 0 rfl) ?_
            refine k_calli (S := Unit) (wc := ([] : va_W)) (wr := (W_X5 cI m0 m1 m2 m3 m4 m5 m6 m7 m8 m9 m10 m11 mr mc me mw u7_0 mn mu ms mt md mz mi mk mo mj ml)) (w1 := fun u => ([] : va_W)) (fun u => (W_X5 cI m0 m1 m2 m3 m4 m5 m6 m7 m8 m9 m10 m11 mr mc me mw u7_0 mn mu ms mt md mz mi mk mo mj ml)) hP hK hD hN hS hA [] [0, 1, 2, 3, 4, 5, 6, 7, 8, 9, 10, 11] rfl rfl (by decide) (by decide) (by decide) [0, 1, 2, 3, 4, 5, 6, 7, 8, 9, 10, 11] (by decide) (fun _ => rfl) (fun hg => va_runS (As := [.int ((f_X5_kin mu a1) &&& mr), .int v62_5]) (rest := []) ⟨hx, hb, hml, hown, hts⟩ (c_X5_has l D cI _ ((f_X5_kin mu a1) &&& mr) v62_5) (va_cwS 2 hts gX5_raise_X5_has rfl rfl rfl (by decide +kernel) ⟨Nat.le_of_ble_eq_true rfl, Nat.le_of_ble_eq_true rfl⟩) ⟨PW.blind, fun U hU hW => ⟨rfl, hg U hU hW⟩⟩ rfl rfl hl.1 rfl (lv_room (Nat.le_of_ble_eq_true rfl)) dX5_raise_72 ⟨Nat.le_of_ble_eq_true rfl, Nat.le_of_ble_eq_true rfl⟩) (fun r12 u H locs hw hP hD hS => ?_)
            obtain ⟨hw, hb12⟩ := hw
            subst hw
            obtain ⟨j13, hJ13⟩ : ∃ z : Int32, z = (if (f_X5_has ((f_X5_kin mu a1) &&& mr) v62_5) = 0 then v62_4 else (if v62_4 < 0 then (mt (v62_5).toNatClampNeg) else (if v62_4 ≤ (mt (v62_5).toNatClampNeg) then v62_4 else (mt (v62_5).toNatClampNeg)))) := ⟨_, rfl⟩
            rw [← hJ13] at he
            try dsimp only at he
            have hpJ13 := hp.1
            replace hp := hp.2 _  hJ13.symm
            have kont13 : ∀ (H : Heap) (locs : List Loc), va_P D vwCl (W_X5 cI m0 m1 m2 m3 m4 m5 m6 m7 m8 m9 m10 m11 mr mc me mw u7_0 mn mu ms mt md mz mi mk mo mj ml) H → va_D A (W_X5 cI m0 m1 m2 m3 m4 m5 m6 m7 m8 m9 m10 m11 mr mc me mw u7_0 mn mu ms mt md mz mi mk mo mj ml) → va_S A s.heap H locs → ∀ ls : Array Slot, lv_has ls 6 [(5, .int v62_5), (3, .int ((f_X5_kin mu a1) &&& mr)), (0, .ref m0), (1, .int a1)] → W p l e (headSpec wsX5_raise rm_X5_raise).room s m ([.ref m0, .int a1] : List Value).toArray below meth c H locs 0 0 (MQ below (Q_X5_raise D cI m0 m1 m2 m3 m4 m5 m6 m7 m8 m9 m10 m11 mr mc me mw mh mn mu ms mt md mz mi mk mo mj ml a1 A) ([.ref m0, .int a1] : List Value).toArray s 0 0 A) (F0 m 107 ls [.int j13]) := by
              intro H locs hP hD hS ls hl
              refine lv_istore (lv' := [(4, .int j13), (5, .int v62_5), (3, .int ((f_X5_kin mu a1) &&& mr)), (0, .ref m0), (1, .int a1)]) hx hb dX5_raise_107 hl (by decide) rfl (fun ls hl => ?_)
              refine lv_iinc (v := (v62_5 + 1)) (lv' := [(5, .int (v62_5 + 1)), (4, .int j13), (3, .int ((f_X5_kin mu a1) &&& mr)), (0, .ref m0), (1, .int a1)]) hx hb dX5_raise_109 hl (k := 1) rfl rfl (by decide) rfl (fun ls hl => ?_)
              refine lv_goto (tgt := 62) hx hb dX5_raise_112 (by decide) ?_
              exact ih _ _ hp he _ _ hP hD hS _ (lv_sub hl [0, 1, 2, 3, 4] rfl)
            replace he := hJ13
            replace hp := hpJ13
            refine lv_if_eq (tgt := 105) hx hb dX5_raise_75 (by decide) (fun c14 => ?_) (fun c14 => ?_)
            · replace hp := hp.1 c14
              replace he := he.trans (if_pos c14)
              refine lv_iload hx hb dX5_raise_105 (lv_at hl 1 rfl) ?_
              subst he
              exact kont13 _ _ hP hD hS _ (lv_sub hl [0, 2, 3, 4] rfl)
            · replace hp := hp.2 c14
              replace he := he.trans (if_neg c14)
              refine lv_iload hx hb dX5_raise_78 (lv_at hl 1 rfl) ?_
              refine lv_if_lt (tgt := 95) hx hb dX5_raise_80 (by decide) (fun c15 => ?_) (fun c15 => ?_)
              · replace hp := hp.1 c15
                replace he := he.trans (if_pos c15)
                refine lv_aload_n hx hb dX5_raise_95 rfl (lv_at hl 3 rfl) ?_
                refine va_get (D := D) (ci := 5) (v := .ref m4) (C := RX5) (T := TX5) (N := 16) hx hb hts (by decide +kernel) hown hK hP 0 rfl rfl 4 (by decide) (hts (.fieldLink RX5 19 "AlarmgroveModel" "ticket" "[I") (by decide +kernel)) (fun _ h9 => h9) rfl dX5_raise_96 ?_
                refine lv_iload hx hb dX5_raise_99 (lv_at hl 0 rfl) ?_
                have h16 := hp.1
                replace hp := hp.2
                refine va_iald hx hb hK hP 4 0 rfl rfl h16 dX5_raise_101 ?_
                refine lv_goto (tgt := 107) hx hb dX5_raise_102 (by decide) ?_
                subst he
                exact kont13 _ _ hP hD hS _ (lv_sub hl [0, 2, 3, 4] rfl)
              · replace hp := hp.2 c15
                replace he := he.trans (if_neg c15)
                refine lv_aload_n hx hb dX5_raise_83 rfl (lv_at hl 3 rfl) ?_
                refine va_get (D := D) (ci := 5) (v := .ref m4) (C := RX5) (T := TX5) (N := 16) hx hb hts (by decide +kernel) hown hK hP 0 rfl rfl 4 (by decide) (hts (.fieldLink RX5 19 "AlarmgroveModel" "ticket" "[I") (by decide +kernel)) (fun _ h9 => h9) rfl dX5_raise_84 ?_
                refine lv_iload hx hb dX5_raise_87 (lv_at hl 0 rfl) ?_
                have h17 := hp.1
                replace hp := hp.2
                refine va_iald hx hb hK hP 4 0 rfl rfl h17 dX5_raise_89 ?_
                refine lv_iload hx hb dX5_raise_90 (lv_at hl 1 rfl) ?_
                refine lv_icmp_ge (tgt := 105) hx hb dX5_raise_92 (by decide) (fun c18 => ?_) (fun c18 => ?_)
                · replace hp := hp.1 c18
                  replace he := he.trans (if_pos c18)
                  refine lv_iload hx hb dX5_raise_105 (lv_at hl 1 rfl) ?_
                  subst he
                  exact kont13 _ _ hP hD hS _ (lv_sub hl [0, 2, 3, 4] rfl)
                · replace hp := hp.2 c18
                  replace he := he.trans (if_neg c18)
                  refine lv_aload_n hx hb dX5_raise_95 rfl (lv_at hl 3 rfl) ?_
                  refine va_get (D := D) (ci := 5) (v := .ref m4) (C := RX5) (T := TX5) (N := 16) hx hb hts (by decide +kernel) hown hK hP 0 rfl rfl 4 (by decide) (hts (.fieldLink RX5 19 "AlarmgroveModel" "ticket" "[I") (by decide +kernel)) (fun _ h9 => h9) rfl dX5_raise_96 ?_
                  refine lv_iload hx hb dX5_raise_99 (lv_at hl 0 rfl) ?_
                  have h19 := hp.1
                  replace hp := hp.2
                  refine va_iald hx hb hK hP 4 0 rfl rfl h19 dX5_raise_101 ?_
                  refine lv_goto (tgt := 107) hx hb dX5_raise_102 (by decide) ?_
                  subst he
                  exact kont13 _ _ hP hD hS _ (lv_sub hl [0, 2, 3, 4] rfl)
      exact loop10 15 ((-1) : Int32) (0 : Int32) hpL10 hL10 _ _ hP hD hS _ (lv_sub hl [0, 1, 2, 3, 4] rfl)
    · replace hp := hp.1 c8
      replace he := he.trans (if_pos c8)
      refine lv_iconst (v := 0) hx hb dX5_raise_43 (by decide) ?_
      exact W.iret (v := 0) hx hb hr (fun t ht hW => ⟨⟨0, (mr, mc, me, u7_0, ms, mt, md, mz, mi, mk, mo, mj, ml), rfl, he, by rw [ht]; exact hP, va_K.moved hW.alike hK, hD⟩, hS.F ht⟩) hS.2.2 dX5_raise_44
  replace he := hJ2
  replace hp := hpJ2
  refine lv_if_eq (tgt := 36) hx hb dX5_raise_8 (by decide) (fun c3 => ?_) (fun c3 => ?_)
  · replace hp := hp.1 c3
    replace he := he.trans (if_pos c3)
    refine lv_iconst (v := 0) hx hb dX5_raise_36 (by decide) ?_
    subst he
    exact kont2 (Or.inl rfl) _ _ hP hD hS _ (lv_sub hl [1, 2] rfl)
  · replace hp := hp.2 c3
    replace he := he.trans (if_neg c3)
    refine lv_aload_n hx hb dX5_raise_11 rfl (lv_at hl 1 rfl) ?_
    refine va_get (D := D) (ci := 5) (v := .int mr) (C := RX5) (T := TX5) (N := 16) hx hb hts (by decide +kernel) hown hK hP 0 rfl rfl 2 (by decide) (hts (.fieldLink RX5 68 "AlarmgroveModel" "raised" "I") (by decide +kernel)) (fun _ h9 => h9) rfl dX5_raise_12 ?_
    refine lv_iload_n hx hb dX5_raise_15 rfl (lv_at hl 2 rfl) ?_
    refine k_calli (S := Unit) (wc := ([] : va_W)) (wr := (W_X5 cI m0 m1 m2 m3 m4 m5 m6 m7 m8 m9 m10 m11 mr mc me mw mh mn mu ms mt md mz mi mk mo mj ml)) (w1 := fun u => ([] : va_W)) (fun u => (W_X5 cI m0 m1 m2 m3 m4 m5 m6 m7 m8 m9 m10 m11 mr mc me mw mh mn mu ms mt md mz mi mk mo mj ml)) hP hK hD hN hS hA [] [0, 1, 2, 3, 4, 5, 6, 7, 8, 9, 10, 11] rfl rfl (by decide) (by decide) (by decide) [0, 1, 2, 3, 4, 5, 6, 7, 8, 9, 10, 11] (by decide) (fun _ => rfl) (fun hg => va_runS (As := [.int mr, .int a1]) (rest := [.int (f_X5_isNode a1), .ref m0]) ⟨hx, hb, hml, hown, hts⟩ (c_X5_has l D cI _ mr a1) (va_cwS 2 hts gX5_raise_X5_has rfl rfl rfl (by decide +kernel) ⟨Nat.le_of_ble_eq_true rfl, Nat.le_of_ble_eq_true rfl⟩) ⟨PW.blind, fun U hU hW => ⟨rfl, hg U hU hW⟩⟩ rfl rfl hl.1 rfl (lv_room (Nat.le_of_ble_eq_true rfl)) dX5_raise_16 ⟨Nat.le_of_ble_eq_true rfl, Nat.le_of_ble_eq_true rfl⟩) (fun r4 u H locs hw hP hD hS => ?_)
    obtain ⟨hw, hb4⟩ := hw
    subst hw
    refine lv_if_ne (tgt := 36) hx hb dX5_raise_19 (by decide) (fun c5 => ?_) (fun c5 => ?_)
    · replace hp := hp.2 c5
      replace he := he.trans (if_neg c5)
      refine lv_iconst (v := 0) hx hb dX5_raise_36 (by decide) ?_
      subst he
      exact kont2 (Or.inl rfl) _ _ hP hD hS _ (lv_sub hl [1, 2] rfl)
    · replace hp := hp.1 c5
      replace he := he.trans (if_pos c5)
      refine lv_aload_n hx hb dX5_raise_22 rfl (lv_at hl 1 rfl) ?_
      refine va_get (D := D) (ci := 5) (v := .int me) (C := RX5) (T := TX5) (N := 16) hx hb hts (by decide +kernel) hown hK hP 0 rfl rfl 13 (by decide) (hts (.fieldLink RX5 65 "AlarmgroveModel" "events" "I") (by decide +kernel)) (fun _ h9 => h9) rfl dX5_raise_23 ?_
      refine lv_sipush (v := 300) hx hb dX5_raise_26 (by decide) ?_
      refine lv_icmp_ge (tgt := 36) hx hb dX5_raise_29 (by decide) (fun c6 => ?_) (fun c6 => ?_)
      · replace hp := hp.1 c6
        replace he := he.trans (if_pos c6)
        refine lv_iconst (v := 0) hx hb dX5_raise_36 (by decide) ?_
        subst he
        exact kont2 (Or.inl rfl) _ _ hP hD hS _ (lv_sub hl [1, 2] rfl)
      · replace hp := hp.2 c6
        replace he := he.trans (if_neg c6)
        refine lv_iconst (v := 1) hx hb dX5_raise_32 (by decide) ?_
        refine lv_goto (tgt := 37) hx hb dX5_raise_33 (by decide) ?_
        subst he
        exact kont2 (Or.inr rfl) _ _ hP hD hS _ (lv_sub hl [1, 2] rfl)
abbrev rm_X5_clear : Room := { frames := 1, cells := 0, slots := 0, locals := 23 }
abbrev Q_X5_clear (D : va_G) (cI : ClassId) (m0 m1 m2 m3 m4 m5 m6 m7 m8 m9 m10 m11 : Nat) (mr : Int32) (mc : Int32) (me : Int32) (mw : Int32) (mh : Int32) (mn : AA) (mu : AA) (ms : AA) (mt : AA) (md : AA) (mz : AA) (mi : AA) (mk : AA) (mo : AA) (mj : AA) (ml : AA) (a1 : Int32) (A : Nat → Prop) : Array Value → State → Outcome → State → Prop := va_Qi (S := Int32 × Int32 × Int32 × AA × AA × AA × AA × AA × AA) (fun r u => f_X5_clear mr me mw ms mt md mz mk mo mj ml a1 = (r, u)) (fun u t => QW D [(cI, .int)] A (W_X5 cI m0 m1 m2 m3 m4 m5 m6 m7 m8 m9 m10 m11 u.1 mc u.2.1 mw u.2.2.1 mn mu ms mt u.2.2.2.1 u.2.2.2.2.1 mi u.2.2.2.2.2.1 u.2.2.2.2.2.2.1 u.2.2.2.2.2.2.2.1 u.2.2.2.2.2.2.2.2) t) A
set_option maxHeartbeats 4000000 in
set_option maxRecDepth 100000 in
theorem c_X5_clear (l : Launch)  (D : va_G) (cI : ClassId) (m0 m1 m2 m3 m4 m5 m6 m7 m8 m9 m10 m11 : Nat) (mr : Int32) (mc : Int32) (me : Int32) (mw : Int32) (mh : Int32) (mn : AA) (mu : AA) (ms : AA) (mt : AA) (md : AA) (mz : AA) (mi : AA) (mk : AA) (mo : AA) (mj : AA) (ml : AA) (sz : Nat) (a1 : Int32) (hp : p_X5_clear mr me mw ms mt md mk mo mj ml a1) : Met l yX5_clear wsX5_clear rm_X5_clear (va_Pc [.ref m0, .int a1] (PW D [(cI, .int)] sz (W_X5 cI m0 m1 m2 m3 m4 m5 m6 m7 m8 m9 m10 m11 mr mc me mw mh mn mu ms mt md mz mi mk mo mj ml))) (Q_X5_clear D cI m0 m1 m2 m3 m4 m5 m6 m7 m8 m9 m10 m11 mr mc me mw mh mn mu ms mt md mz mi mk mo mj ml a1 (va_A (W_X5 cI m0 m1 m2 m3 m4 m5 m6 m7 m8 m9 m10 m11 mr mc me mw mh mn mu ms mt md mz mi mk mo mj ml) sz)) 0 0 (va_A (W_X5 cI m0 m1 m2 m3 m4 m5 m6 m7 m8 m9 m10 m11 mr mc me mw mh mn mu ms mt md mz mi mk mo mj ml) sz) := by
  refine Met.ofW (cc := cX5_clear) (maxL := 4) (ret := (some .int)) (by decide) rfl ?_
  intro p e s m args below meth c s₁ B hml hv
  obtain ⟨rfl, hsz, hP, hK, hD0, hN⟩ := hv
  have hx := B.exec
  have hb := B.bytes
  have hr := B.returns
  have hts := atoms_spec (ws := wsX5_clear) B.pre
  have hown : s.vm.findClass RX5 = some m.cls := findClass_of_methodNamed B.named
  have hlocks := B.notSynchronized
  subst hsz
  have hD := hD0.self (sz := s.heap.size)
  generalize hAe : va_A (W_X5 cI m0 m1 m2 m3 m4 m5 m6 m7 m8 m9 m10 m11 mr mc me mw mh mn mu ms mt md mz mi mk mo mj ml) s.heap.size = A at hD ⊢
  have hA : ∀ q : Nat, s.heap.size ≤ q → A q := fun q h => by rw [← hAe]; exact Or.inr h
  have hS : va_S A s.heap s.heap [] := va_S.rf
  have hl := lv_entry ([.ref m0, .int a1]) (n := 4) (Nat.le_of_ble_eq_true rfl)
  rw [lg_entry_eq]
  generalize (lg_sl ([.ref m0, .int a1]) ++ List.replicate (4 - (lg_sl ([.ref m0, .int a1])).length) Slot.unset).toArray = ls at hl ⊢
  have hl : lv_has ls 4 [(0, .ref m0), (1, .int a1)] := hl
  have he := f_X5_clear.eq_1 mr me mw ms mt md mz mk mo mj ml a1
  replace hp := Eq.mp (p_X5_clear.eq_1 ..) hp
  refine lv_iload_n hx hb dX5_clear_0 rfl (lv_at hl 1 rfl) ?_
  refine k_calli (S := Unit) (wc := ([] : va_W)) (wr := (W_X5 cI m0 m1 m2 m3 m4 m5 m6 m7 m8 m9 m10 m11 mr mc me mw mh mn mu ms mt md mz mi mk mo mj ml)) (w1 := fun u => ([] : va_W)) (fun u => (W_X5 cI m0 m1 m2 m3 m4 m5 m6 m7 m8 m9 m10 m11 mr mc me mw mh mn mu ms mt md mz mi mk mo mj ml)) hP hK hD hN hS hA [] [0, 1, 2, 3, 4, 5, 6, 7, 8, 9, 10, 11] rfl rfl (by decide) (by decide) (by decide) [0, 1, 2, 3, 4, 5, 6, 7, 8, 9, 10, 11] (by decide) (fun _ => rfl) (fun hg => va_runS (As := [.int a1]) (rest := []) ⟨hx, hb, hml, hown, hts⟩ (c_X5_isNode l D cI _ a1) (va_cwS 1 hts gX5_clear_X5_isNode rfl rfl rfl (by decide +kernel) ⟨Nat.le_of_ble_eq_true rfl, Nat.le_of_ble_eq_true rfl⟩) ⟨PW.blind, fun U hU hW => ⟨rfl, hg U hU hW⟩⟩ rfl rfl hl.1 rfl (lv_room (Nat.le_of_ble_eq_true rfl)) dX5_clear_1 ⟨Nat.le_of_ble_eq_true rfl, Nat.le_of_ble_eq_true rfl⟩) (fun r1 u H locs hw hP hD hS => ?_)
  obtain ⟨hw, hb1⟩ := hw
  subst hw
  refine lv_istore_n (lv' := [(2, .int (f_X5_isNode a1)), (0, .ref m0), (1, .int a1)]) hx hb dX5_clear_4 rfl hl (by decide) rfl (fun ls hl => ?_)
  refine lv_aload_n hx hb dX5_clear_5 rfl (lv_at hl 1 rfl) ?_
  refine lv_iload_n hx hb dX5_clear_6 rfl (lv_at hl 0 rfl) ?_
  refine lv_iload_n hx hb dX5_clear_7 rfl (lv_at hl 0 rfl) ?_
  obtain ⟨j2, hJ2⟩ : ∃ z : Int32, z = (if (f_X5_isNode a1) = 0 then (0 : Int32) else (if (f_X5_has mr a1) = 0 then (0 : Int32) else (if 300 ≤ me then (0 : Int32) else (1 : Int32)))) := ⟨_, rfl⟩
  rw [← hJ2] at he
  try dsimp only at he
  have hpJ2 := hp.1
  replace hp := hp.2 _  hJ2.symm
  have kont2 : (j2 = 0 ∨ j2 = 1) → ∀ (H : Heap) (locs : List Loc), va_P D vwCl (W_X5 cI m0 m1 m2 m3 m4 m5 m6 m7 m8 m9 m10 m11 mr mc me mw mh mn mu ms mt md mz mi mk mo mj ml) H → va_D A (W_X5 cI m0 m1 m2 m3 m4 m5 m6 m7 m8 m9 m10 m11 mr mc me mw mh mn mu ms mt md mz mi mk mo mj ml) → va_S A s.heap H locs → ∀ ls : Array Slot, lv_has ls 4 [(0, .ref m0), (1, .int a1)] → W p l e (headSpec wsX5_clear rm_X5_clear).room s m ([.ref m0, .int a1] : List Value).toArray below meth c H locs 0 0 (MQ below (Q_X5_clear D cI m0 m1 m2 m3 m4 m5 m6 m7 m8 m9 m10 m11 mr mc me mw mh mn mu ms mt md mz mi mk mo mj ml a1 A) ([.ref m0, .int a1] : List Value).toArray s 0 0 A) (F0 m 37 ls [.int j2, .int (f_X5_isNode a1), .ref m0]) := by
    intro hb2 H locs hP hD hS ls hl
    refine k_calli (S := Int32) (wc := (W_X5 cI m0 m1 m2 m3 m4 m5 m6 m7 m8 m9 m10 m11 mr mc me mw mh mn mu ms mt md mz mi mk mo mj ml)) (wr := ([] : va_W)) (w1 := fun u => (W_X5 cI m0 m1 m2 m3 m4 m5 m6 m7 m8 m9 m10 m11 mr mc me mw u mn mu ms mt md mz mi mk mo mj ml)) (fun u => (W_X5 cI m0 m1 m2 m3 m4 m5 m6 m7 m8 m9 m10 m11 mr mc me mw u mn mu ms mt md mz mi mk mo mj ml)) hP hK hD hN hS hA [0, 1, 2, 3, 4, 5, 6, 7, 8, 9, 10, 11] [] rfl rfl (by decide) (by decide) (by decide) [0, 1, 2, 3, 4, 5, 6, 7, 8, 9, 10, 11] (by decide) (fun _ => rfl) (fun hg => va_runV (As := [.int (f_X5_isNode a1), .int j2]) (rest := []) ⟨hx, hb, hml, hown, hts⟩ (c_X5_goes l D cI m0 m1 m2 m3 m4 m5 m6 m7 m8 m9 m10 m11 mr mc me mw mh mn mu ms mt md mz mi mk mo mj ml _ (f_X5_isNode a1) j2) (cwV 2 hts gX5_clear_X5_goes rfl rfl rfl (by decide +kernel) ⟨Nat.le_of_ble_eq_true rfl, Nat.le_of_ble_eq_true rfl⟩) ⟨PW.blind, va_recv hK hP (ci := 5) (q0 := 0) rfl rfl, fun U hU hW => ⟨rfl, hg U hU hW⟩⟩ rfl rfl hl.1 rfl (lv_room (Nat.le_of_ble_eq_true rfl)) dX5_clear_37 ⟨Nat.le_of_ble_eq_true rfl, Nat.le_of_ble_eq_true rfl⟩) (fun r7 u H locs hw hP hD hS => ?_)
    obtain ⟨u7_0, rfl⟩ : ∃ z, z = u := ⟨_, rfl⟩
    obtain ⟨hw, hb7⟩ := hw
    rw [hw] at he
    try dsimp only at he
    replace hp := hp r7 u7_0 hw
    have hP : va_P D vwCl (W_X5 cI m0 m1 m2 m3 m4 m5 m6 m7 m8 m9 m10 m11 mr mc me mw u7_0 mn mu ms mt md mz mi mk mo mj ml) H := hP
    have hD : va_D A (W_X5 cI m0 m1 m2 m3 m4 m5 m6 m7 m8 m9 m10 m11 mr mc me mw u7_0 mn mu ms mt md mz mi mk mo mj ml) := hD
    refine lv_if_ne (tgt := 45) hx hb dX5_clear_40 (by decide) (fun c8 => ?_) (fun c8 => ?_)
    · replace hp := hp.2 c8
      replace he := he.trans (if_neg c8)
      refine lv_aload_n hx hb dX5_clear_45 rfl (lv_at hl 0 rfl) ?_
      refine va_get (D := D) (ci := 5) (v := .ref m4) (C := RX5) (T := TX5) (N := 16) hx hb hts (by decide +kernel) hown hK hP 0 rfl rfl 4 (by decide) (hts (.fieldLink RX5 19 "AlarmgroveModel" "ticket" "[I") (by decide +kernel)) (fun _ h9 => h9) rfl dX5_clear_46 ?_
      refine lv_iload_n hx hb dX5_clear_49 rfl (lv_at hl 1 rfl) ?_
      have h9 := hp.1
      replace hp := hp.2
      refine va_iald hx hb hK hP 4 0 rfl rfl h9 dX5_clear_50 ?_
      refine lv_istore_n (lv' := [(3, .int (mt (a1).toNatClampNeg)), (0, .ref m0), (1, .int a1)]) hx hb dX5_clear_51 rfl hl (by decide) rfl (fun ls hl => ?_)
      refine lv_aload_n hx hb dX5_clear_52 rfl (lv_at hl 1 rfl) ?_
      refine va_get (D := D) (ci := 5) (v := .ref m5) (C := RX5) (T := TX5) (N := 16) hx hb hts (by decide +kernel) hown hK hP 0 rfl rfl 5 (by decide) (hts (.fieldLink RX5 22 "AlarmgroveModel" "nodes" "[I") (by decide +kernel)) (fun _ h9 => h9) rfl dX5_clear_53 ?_
      refine lv_iload_n hx hb dX5_clear_56 rfl (lv_at hl 0 rfl) ?_
      refine lv_dup2_11 hx hb dX5_clear_57 rfl rfl ?_
      have h10 := hp.1
      replace hp := hp.2
      refine va_iald hx hb hK hP 5 0 rfl rfl h10 dX5_clear_58 ?_
      refine lv_iconst (v := 1) hx hb dX5_clear_59 (by decide) ?_
      refine lv_iload_n hx hb dX5_clear_60 rfl (lv_at hl 2 rfl) ?_
      refine lv_ishl hx hb dX5_clear_61 ?_
      refine lv_iconst (v := (-1)) hx hb dX5_clear_62 (by decide) ?_
      refine lv_ixor hx hb dX5_clear_63 ?_
      refine lv_iand hx hb dX5_clear_64 ?_
      have h11 := hp.1
      replace hp := hp.2
      refine va_iast hx hb hK hP hD hS 5 0 rfl rfl h11 dX5_clear_65 (fun H locs hP hD hS => ?_)
      have hP : va_P D vwCl (W_X5 cI m0 m1 m2 m3 m4 m5 m6 m7 m8 m9 m10 m11 mr mc me mw u7_0 mn mu ms mt (upd md ((mt (a1).toNatClampNeg)).toNatClampNeg ((md ((mt (a1).toNatClampNeg)).toNatClampNeg) &&& ((1 <<< (a1 &&& 31)) ^^^ (-1)))) mz mi mk mo mj ml) H := hP
      have hD : va_D A (W_X5 cI m0 m1 m2 m3 m4 m5 m6 m7 m8 m9 m10 m11 mr mc me mw u7_0 mn mu ms mt (upd md ((mt (a1).toNatClampNeg)).toNatClampNeg ((md ((mt (a1).toNatClampNeg)).toNatClampNeg) &&& ((1 <<< (a1 &&& 31)) ^^^ (-1)))) mz mi mk mo mj ml) := hD
      refine lv_aload_n hx hb dX5_clear_66 rfl (lv_at hl 1 rfl) ?_
      refine va_get (D := D) (ci := 5) (v := .ref m6) (C := RX5) (T := TX5) (N := 16) hx hb hts (by decide +kernel) hown hK hP 0 rfl rfl 6 (by decide) (hts (.fieldLink RX5 25 "AlarmgroveModel" "states" "[I") (by decide +kernel)) (fun _ h9 => h9) rfl dX5_clear_67 ?_
      refine lv_iload_n hx hb dX5_clear_70 rfl (lv_at hl 0 rfl) ?_
      refine lv_aload_n hx hb dX5_clear_71 rfl (lv_at hl 1 rfl) ?_
      refine va_get (D := D) (ci := 5) (v := .ref m5) (C := RX5) (T := TX5) (N := 16) hx hb hts (by decide +kernel) hown hK hP 0 rfl rfl 5 (by decide) (hts (.fieldLink RX5 22 "AlarmgroveModel" "nodes" "[I") (by decide +kernel)) (fun _ h9 => h9) rfl dX5_clear_72 ?_
      refine lv_iload_n hx hb dX5_clear_75 rfl (lv_at hl 0 rfl) ?_
      have h12 := hp.1
      replace hp := hp.2
      refine va_iald hx hb hK hP 5 0 rfl rfl h12 dX5_clear_76 ?_
      obtain ⟨j13, hJ13⟩ : ∃ z : Int32, z = (if ((upd md ((mt (a1).toNatClampNeg)).toNatClampNeg ((md ((mt (a1).toNatClampNeg)).toNatClampNeg) &&& ((1 <<< (a1 &&& 31)) ^^^ (-1)))) ((mt (a1).toNatClampNeg)).toNatClampNeg) = 0 then (2 : Int32) else (1 : Int32)) := ⟨_, rfl⟩
      rw [← hJ13] at he
      try dsimp only at he
      have hpJ13 := hp.1
      replace hp := hp.2 _  hJ13.symm
      have kont13 : ∀ (H : Heap) (locs : List Loc), va_P D vwCl (W_X5 cI m0 m1 m2 m3 m4 m5 m6 m7 m8 m9 m10 m11 mr mc me mw u7_0 mn mu ms mt (upd md ((mt (a1).toNatClampNeg)).toNatClampNeg ((md ((mt (a1).toNatClampNeg)).toNatClampNeg) &&& ((1 <<< (a1 &&& 31)) ^^^ (-1)))) mz mi mk mo mj ml) H → va_D A (W_X5 cI m0 m1 m2 m3 m4 m5 m6 m7 m8 m9 m10 m11 mr mc me mw u7_0 mn mu ms mt (upd md ((mt (a1).toNatClampNeg)).toNatClampNeg ((md ((mt (a1).toNatClampNeg)).toNatClampNeg) &&& ((1 <<< (a1 &&& 31)) ^^^ (-1)))) mz mi mk mo mj ml) → va_S A s.heap H locs → ∀ ls : Array Slot, lv_has ls 4 [(3, .int (mt (a1).toNatClampNeg)), (0, .ref m0), (1, .int a1)] → W p l e (headSpec wsX5_clear rm_X5_clear).room s m ([.ref m0, .int a1] : List Value).toArray below meth c H locs 0 0 (MQ below (Q_X5_clear D cI m0 m1 m2 m3 m4 m5 m6 m7 m8 m9 m10 m11 mr mc me mw mh mn mu ms mt md mz mi mk mo mj ml a1 A) ([.ref m0, .int a1] : List Value).toArray s 0 0 A) (F0 m 85 ls [.int j13, .int (mt (a1).toNatClampNeg), .ref m6]) := by
        intro H locs hP hD hS ls hl
        have h15 := hp.1
        replace hp := hp.2
        refine va_iast hx hb hK hP hD hS 6 0 rfl rfl h15 dX5_clear_85 (fun H locs hP hD hS => ?_)
        have hP : va_P D vwCl (W_X5 cI m0 m1 m2 m3 m4 m5 m6 m7 m8 m9 m10 m11 mr mc me mw u7_0 mn mu ms mt (upd md ((mt (a1).toNatClampNeg)).toNatClampNeg ((md ((mt (a1).toNatClampNeg)).toNatClampNeg) &&& ((1 <<< (a1 &&& 31)) ^^^ (-1)))) (upd mz ((mt (a1).toNatClampNeg)).toNatClampNeg j13) mi mk mo mj ml) H := hP
        have hD : va_D A (W_X5 cI m0 m1 m2 m3 m4 m5 m6 m7 m8 m9 m10 m11 mr mc me mw u7_0 mn mu ms mt (upd md ((mt (a1).toNatClampNeg)).toNatClampNeg ((md ((mt (a1).toNatClampNeg)).toNatClampNeg) &&& ((1 <<< (a1 &&& 31)) ^^^ (-1)))) (upd mz ((mt (a1).toNatClampNeg)).toNatClampNeg j13) mi mk mo mj ml) := hD
        refine lv_aload_n hx hb dX5_clear_86 rfl (lv_at hl 1 rfl) ?_
        refine lv_dup hx hb dX5_clear_87 rfl ?_
        refine va_get (D := D) (ci := 5) (v := .int mr) (C := RX5) (T := TX5) (N := 16) hx hb hts (by decide +kernel) hown hK hP 0 rfl rfl 2 (by decide) (hts (.fieldLink RX5 68 "AlarmgroveModel" "raised" "I") (by decide +kernel)) (fun _ h9 => h9) rfl dX5_clear_88 ?_
        refine lv_iconst (v := 1) hx hb dX5_clear_91 (by decide) ?_
        refine lv_iload_n hx hb dX5_clear_92 rfl (lv_at hl 2 rfl) ?_
        refine lv_ishl hx hb dX5_clear_93 ?_
        refine lv_iconst (v := (-1)) hx hb dX5_clear_94 (by decide) ?_
        refine lv_ixor hx hb dX5_clear_95 ?_
        refine lv_iand hx hb dX5_clear_96 ?_
        refine va_put (D := D) (ci := 5) (v := .int (mr &&& ((1 <<< (a1 &&& 31)) ^^^ (-1)))) (ty := .int) (C := RX5) (T := TX5) (N := 16) hx hb hts (by decide +kernel) tyX5 tyX5_ok nmX5 hown hK hP hD hS 0 rfl rfl 2 (by decide) (hts (.fieldLink RX5 68 "AlarmgroveModel" "raised" "I") (by decide +kernel)) (fun _ h9 => h9) rfl (by decide +kernel) rfl rfl (Nat.le_of_ble_eq_true rfl) dX5_clear_97 (fun H locs hP hD hS => ?_)
        have hP : va_P D vwCl (W_X5 cI m0 m1 m2 m3 m4 m5 m6 m7 m8 m9 m10 m11 (mr &&& ((1 <<< (a1 &&& 31)) ^^^ (-1))) mc me mw u7_0 mn mu ms mt (upd md ((mt (a1).toNatClampNeg)).toNatClampNeg ((md ((mt (a1).toNatClampNeg)).toNatClampNeg) &&& ((1 <<< (a1 &&& 31)) ^^^ (-1)))) (upd mz ((mt (a1).toNatClampNeg)).toNatClampNeg j13) mi mk mo mj ml) H := hP
        have hD : va_D A (W_X5 cI m0 m1 m2 m3 m4 m5 m6 m7 m8 m9 m10 m11 (mr &&& ((1 <<< (a1 &&& 31)) ^^^ (-1))) mc me mw u7_0 mn mu ms mt (upd md ((mt (a1).toNatClampNeg)).toNatClampNeg ((md ((mt (a1).toNatClampNeg)).toNatClampNeg) &&& ((1 <<< (a1 &&& 31)) ^^^ (-1)))) (upd mz ((mt (a1).toNatClampNeg)).toNatClampNeg j13) mi mk mo mj ml) := hD
        refine lv_aload_n hx hb dX5_clear_100 rfl (lv_at hl 1 rfl) ?_
        refine lv_iconst (v := 1) hx hb dX5_clear_101 (by decide) ?_
        refine lv_iload_n hx hb dX5_clear_102 rfl (lv_at hl 2 rfl) ?_
        refine lv_aload_n hx hb dX5_clear_103 rfl (lv_at hl 1 rfl) ?_
        refine va_get (D := D) (ci := 5) (v := .int mw) (C := RX5) (T := TX5) (N := 16) hx hb hts (by decide +kernel) hown hK hP 0 rfl rfl 14 (by decide) (hts (.fieldLink RX5 62 "AlarmgroveModel" "now" "I") (by decide +kernel)) (fun _ h9 => h9) rfl dX5_clear_104 ?_
        refine lv_aload_n hx hb dX5_clear_107 rfl (lv_at hl 1 rfl) ?_
        refine va_get (D := D) (ci := 5) (v := .ref m3) (C := RX5) (T := TX5) (N := 16) hx hb hts (by decide +kernel) hown hK hP 0 rfl rfl 3 (by decide) (hts (.fieldLink RX5 16 "AlarmgroveModel" "since" "[I") (by decide +kernel)) (fun _ h9 => h9) rfl dX5_clear_108 ?_
        refine lv_iload_n hx hb dX5_clear_111 rfl (lv_at hl 2 rfl) ?_
        have h16 := hp.1
        replace hp := hp.2
        refine va_iald hx hb hK hP 3 0 rfl rfl h16 dX5_clear_112 ?_
        refine lv_isub hx hb dX5_clear_113 ?_
        have hq17 := hp.1
        replace hp := hp.2
        refine k_callv (S := Int32 × AA × AA × AA × AA) (wc := (W_X5 cI m0 m1 m2 m3 m4 m5 m6 m7 m8 m9 m10 m11 (mr &&& ((1 <<< (a1 &&& 31)) ^^^ (-1))) mc me mw u7_0 mn mu ms mt (upd md ((mt (a1).toNatClampNeg)).toNatClampNeg ((md ((mt (a1).toNatClampNeg)).toNatClampNeg) &&& ((1 <<< (a1 &&& 31)) ^^^ (-1)))) (upd mz ((mt (a1).toNatClampNeg)).toNatClampNeg j13) mi mk mo mj ml)) (wr := ([] : va_W)) (w1 := fun u => (W_X5 cI m0 m1 m2 m3 m4 m5 m6 m7 m8 m9 m10 m11 (mr &&& ((1 <<< (a1 &&& 31)) ^^^ (-1))) mc u.1 mw u7_0 mn mu ms mt (upd md ((mt (a1).toNatClampNeg)).toNatClampNeg ((md ((mt (a1).toNatClampNeg)).toNatClampNeg) &&& ((1 <<< (a1 &&& 31)) ^^^ (-1)))) (upd mz ((mt (a1).toNatClampNeg)).toNatClampNeg j13) mi u.2.1 u.2.2.1 u.2.2.2.1 u.2.2.2.2)) (fun u => (W_X5 cI m0 m1 m2 m3 m4 m5 m6 m7 m8 m9 m10 m11 (mr &&& ((1 <<< (a1 &&& 31)) ^^^ (-1))) mc u.1 mw u7_0 mn mu ms mt (upd md ((mt (a1).toNatClampNeg)).toNatClampNeg ((md ((mt (a1).toNatClampNeg)).toNatClampNeg) &&& ((1 <<< (a1 &&& 31)) ^^^ (-1)))) (upd mz ((mt (a1).toNatClampNeg)).toNatClampNeg j13) mi u.2.1 u.2.2.1 u.2.2.2.1 u.2.2.2.2)) hP hK hD hN hS hA [0, 1, 2, 3, 4, 5, 6, 7, 8, 9, 10, 11] [] rfl rfl (by decide) (by decide) (by decide) [0, 1, 2, 3, 4, 5, 6, 7, 8, 9, 10, 11] (by decide) (fun _ => rfl) (fun hg => va_runV (As := [.int 1, .int a1, .int (mw - (ms (a1).toNatClampNeg))]) (rest := []) ⟨hx, hb, hml, hown, hts⟩ (c_X5_notes l D cI m0 m1 m2 m3 m4 m5 m6 m7 m8 m9 m10 m11 (mr &&& ((1 <<< (a1 &&& 31)) ^^^ (-1))) mc me mw u7_0 mn mu ms mt (upd md ((mt (a1).toNatClampNeg)).toNatClampNeg ((md ((mt (a1).toNatClampNeg)).toNatClampNeg) &&& ((1 <<< (a1 &&& 31)) ^^^ (-1)))) (upd mz ((mt (a1).toNatClampNeg)).toNatClampNeg j13) mi mk mo mj ml _ 1 a1 (mw - (ms (a1).toNatClampNeg)) hq17) (cwV 3 hts gX5_clear_X5_notes rfl rfl rfl (by decide +kernel) ⟨Nat.le_of_ble_eq_true rfl, Nat.le_of_ble_eq_true rfl⟩) ⟨PW.blind, va_recv hK hP (ci := 5) (q0 := 0) rfl rfl, fun U hU hW => ⟨rfl, hg U hU hW⟩⟩ rfl rfl hl.1 rfl (lv_room (Nat.le_of_ble_eq_true rfl)) dX5_clear_114 ⟨Nat.le_of_ble_eq_true rfl, Nat.le_of_ble_eq_true rfl⟩) (fun u H locs hw hP hD hS => ?_)
        obtain ⟨u17_0, u17_1, u17_2, u17_3, u17_4⟩ := u
        rw [hw] at he
        try dsimp only at he
        replace hp := hp u17_0 u17_1 u17_2 u17_3 u17_4 hw
        have hP : va_P D vwCl (W_X5 cI m0 m1 m2 m3 m4 m5 m6 m7 m8 m9 m10 m11 (mr &&& ((1 <<< (a1 &&& 31)) ^^^ (-1))) mc u17_0 mw u7_0 mn mu ms mt (upd md ((mt (a1).toNatClampNeg)).toNatClampNeg ((md ((mt (a1).toNatClampNeg)).toNatClampNeg) &&& ((1 <<< (a1 &&& 31)) ^^^ (-1)))) (upd mz ((mt (a1).toNatClampNeg)).toNatClampNeg j13) mi u17_1 u17_2 u17_3 u17_4) H := hP
        have hD : va_D A (W_X5 cI m0 m1 m2 m3 m4 m5 m6 m7 m8 m9 m10 m11 (mr &&& ((1 <<< (a1 &&& 31)) ^^^ (-1))) mc u17_0 mw u7_0 mn mu ms mt (upd md ((mt (a1).toNatClampNeg)).toNatClampNeg ((md ((mt (a1).toNatClampNeg)).toNatClampNeg) &&& ((1 <<< (a1 &&& 31)) ^^^ (-1)))) (upd mz ((mt (a1).toNatClampNeg)).toNatClampNeg j13) mi u17_1 u17_2 u17_3 u17_4) := hD
        refine lv_aload_n hx hb dX5_clear_117 rfl (lv_at hl 1 rfl) ?_
        refine va_get (D := D) (ci := 5) (v := .ref m5) (C := RX5) (T := TX5) (N := 16) hx hb hts (by decide +kernel) hown hK hP 0 rfl rfl 5 (by decide) (hts (.fieldLink RX5 22 "AlarmgroveModel" "nodes" "[I") (by decide +kernel)) (fun _ h9 => h9) rfl dX5_clear_118 ?_
        refine lv_iload_n hx hb dX5_clear_121 rfl (lv_at hl 0 rfl) ?_
        have h18 := hp.1
        replace hp := hp.2
        refine va_iald hx hb hK hP 5 0 rfl rfl h18 dX5_clear_122 ?_
        have hq19 := hp.1
        replace hp := hp.2
        refine k_calli (S := Unit) (wc := ([] : va_W)) (wr := (W_X5 cI m0 m1 m2 m3 m4 m5 m6 m7 m8 m9 m10 m11 (mr &&& ((1 <<< (a1 &&& 31)) ^^^ (-1))) mc u17_0 mw u7_0 mn mu ms mt (upd md ((mt (a1).toNatClampNeg)).toNatClampNeg ((md ((mt (a1).toNatClampNeg)).toNatClampNeg) &&& ((1 <<< (a1 &&& 31)) ^^^ (-1)))) (upd mz ((mt (a1).toNatClampNeg)).toNatClampNeg j13) mi u17_1 u17_2 u17_3 u17_4)) (w1 := fun u => ([] : va_W)) (fun u => (W_X5 cI m0 m1 m2 m3 m4 m5 m6 m7 m8 m9 m10 m11 (mr &&& ((1 <<< (a1 &&& 31)) ^^^ (-1))) mc u17_0 mw u7_0 mn mu ms mt (upd md ((mt (a1).toNatClampNeg)).toNatClampNeg ((md ((mt (a1).toNatClampNeg)).toNatClampNeg) &&& ((1 <<< (a1 &&& 31)) ^^^ (-1)))) (upd mz ((mt (a1).toNatClampNeg)).toNatClampNeg j13) mi u17_1 u17_2 u17_3 u17_4)) hP hK hD hN hS hA [] [0, 1, 2, 3, 4, 5, 6, 7, 8, 9, 10, 11] rfl rfl (by decide) (by decide) (by decide) [0, 1, 2, 3, 4, 5, 6, 7, 8, 9, 10, 11] (by decide) (fun _ => rfl) (fun hg => va_runS (As := [.int ((upd md ((mt (a1).toNatClampNeg)).toNatClampNeg ((md ((mt (a1).toNatClampNeg)).toNatClampNeg) &&& ((1 <<< (a1 &&& 31)) ^^^ (-1)))) ((mt (a1).toNatClampNeg)).toNatClampNeg)]) (rest := []) ⟨hx, hb, hml, hown, hts⟩ (c_X5_count l D cI _ ((upd md ((mt (a1).toNatClampNeg)).toNatClampNeg ((md ((mt (a1).toNatClampNeg)).toNatClampNeg) &&& ((1 <<< (a1 &&& 31)) ^^^ (-1)))) ((mt (a1).toNatClampNeg)).toNatClampNeg) hq19) (va_cwS 1 hts gX5_clear_X5_count rfl rfl rfl (by decide +kernel) ⟨Nat.le_of_ble_eq_true rfl, Nat.le_of_ble_eq_true rfl⟩) ⟨PW.blind, fun U hU hW => ⟨rfl, hg U hU hW⟩⟩ rfl rfl hl.1 rfl (lv_room (Nat.le_of_ble_eq_true rfl)) dX5_clear_123 ⟨Nat.le_of_ble_eq_true rfl, Nat.le_of_ble_eq_true rfl⟩) (fun r19 u H locs hw hP hD hS => ?_)
        subst hw
        exact W.iret (v := (f_X5_count ((upd md ((mt (a1).toNatClampNeg)).toNatClampNeg ((md ((mt (a1).toNatClampNeg)).toNatClampNeg) &&& ((1 <<< (a1 &&& 31)) ^^^ (-1)))) ((mt (a1).toNatClampNeg)).toNatClampNeg))) hx hb hr (fun t ht hW => ⟨⟨(f_X5_count ((upd md ((mt (a1).toNatClampNeg)).toNatClampNeg ((md ((mt (a1).toNatClampNeg)).toNatClampNeg) &&& ((1 <<< (a1 &&& 31)) ^^^ (-1)))) ((mt (a1).toNatClampNeg)).toNatClampNeg)), ((mr &&& ((1 <<< (a1 &&& 31)) ^^^ (-1))), u17_0, u7_0, (upd md ((mt (a1).toNatClampNeg)).toNatClampNeg ((md ((mt (a1).toNatClampNeg)).toNatClampNeg) &&& ((1 <<< (a1 &&& 31)) ^^^ (-1)))), (upd mz ((mt (a1).toNatClampNeg)).toNatClampNeg j13), u17_1, u17_2, u17_3, u17_4), rfl, he, by rw [ht]; exact hP, va_K.moved hW.alike hK, hD⟩, hS.F ht⟩) hS.2.2 dX5_clear_126
      replace he := hJ13
      replace hp := hpJ13
      refine lv_if_ne (tgt := 84) hx hb dX5_clear_77 (by decide) (fun c14 => ?_) (fun c14 => ?_)
      · replace hp := hp.2 c14
        replace he := he.trans (if_neg c14)
        refine lv_iconst (v := 1) hx hb dX5_clear_84 (by decide) ?_
        subst he
        exact kont13 _ _ hP hD hS _ (lv_sub hl [0, 1, 2] rfl)
      · replace hp := hp.1 c14
        replace he := he.trans (if_pos c14)
        refine lv_iconst (v := 2) hx hb dX5_clear_80 (by decide) ?_
        refine lv_goto (tgt := 85) hx hb dX5_clear_81 (by decide) ?_
        subst he
        exact kont13 _ _ hP hD hS _ (lv_sub hl [0, 1, 2] rfl)
    · replace hp := hp.1 c8
      replace he := he.trans (if_pos c8)
      refine lv_iconst (v := 0) hx hb dX5_clear_43 (by decide) ?_
      exact W.iret (v := 0) hx hb hr (fun t ht hW => ⟨⟨0, (mr, me, u7_0, md, mz, mk, mo, mj, ml), rfl, he, by rw [ht]; exact hP, va_K.moved hW.alike hK, hD⟩, hS.F ht⟩) hS.2.2 dX5_clear_44
  replace he := hJ2
  replace hp := hpJ2
  refine lv_if_eq (tgt := 36) hx hb dX5_clear_8 (by decide) (fun c3 => ?_) (fun c3 => ?_)
  · replace hp := hp.1 c3
    replace he := he.trans (if_pos c3)
    refine lv_iconst (v := 0) hx hb dX5_clear_36 (by decide) ?_
    subst he
    exact kont2 (Or.inl rfl) _ _ hP hD hS _ (lv_sub hl [1, 2] rfl)
  · replace hp := hp.2 c3
    replace he := he.trans (if_neg c3)
    refine lv_aload_n hx hb dX5_clear_11 rfl (lv_at hl 1 rfl) ?_
    refine va_get (D := D) (ci := 5) (v := .int mr) (C := RX5) (T := TX5) (N := 16) hx hb hts (by decide +kernel) hown hK hP 0 rfl rfl 2 (by decide) (hts (.fieldLink RX5 68 "AlarmgroveModel" "raised" "I") (by decide +kernel)) (fun _ h9 => h9) rfl dX5_clear_12 ?_
    refine lv_iload_n hx hb dX5_clear_15 rfl (lv_at hl 2 rfl) ?_
    refine k_calli (S := Unit) (wc := ([] : va_W)) (wr := (W_X5 cI m0 m1 m2 m3 m4 m5 m6 m7 m8 m9 m10 m11 mr mc me mw mh mn mu ms mt md mz mi mk mo mj ml)) (w1 := fun u => ([] : va_W)) (fun u => (W_X5 cI m0 m1 m2 m3 m4 m5 m6 m7 m8 m9 m10 m11 mr mc me mw mh mn mu ms mt md mz mi mk mo mj ml)) hP hK hD hN hS hA [] [0, 1, 2, 3, 4, 5, 6, 7, 8, 9, 10, 11] rfl rfl (by decide) (by decide) (by decide) [0, 1, 2, 3, 4, 5, 6, 7, 8, 9, 10, 11] (by decide) (fun _ => rfl) (fun hg => va_runS (As := [.int mr, .int a1]) (rest := [.int (f_X5_isNode a1), .ref m0]) ⟨hx, hb, hml, hown, hts⟩ (c_X5_has l D cI _ mr a1) (va_cwS 2 hts gX5_clear_X5_has rfl rfl rfl (by decide +kernel) ⟨Nat.le_of_ble_eq_true rfl, Nat.le_of_ble_eq_true rfl⟩) ⟨PW.blind, fun U hU hW => ⟨rfl, hg U hU hW⟩⟩ rfl rfl hl.1 rfl (lv_room (Nat.le_of_ble_eq_true rfl)) dX5_clear_16 ⟨Nat.le_of_ble_eq_true rfl, Nat.le_of_ble_eq_true rfl⟩) (fun r4 u H locs hw hP hD hS => ?_)
    obtain ⟨hw, hb4⟩ := hw
    subst hw
    refine lv_if_eq (tgt := 36) hx hb dX5_clear_19 (by decide) (fun c5 => ?_) (fun c5 => ?_)
    · replace hp := hp.1 c5
      replace he := he.trans (if_pos c5)
      refine lv_iconst (v := 0) hx hb dX5_clear_36 (by decide) ?_
      subst he
      exact kont2 (Or.inl rfl) _ _ hP hD hS _ (lv_sub hl [1, 2] rfl)
    · replace hp := hp.2 c5
      replace he := he.trans (if_neg c5)
      refine lv_aload_n hx hb dX5_clear_22 rfl (lv_at hl 1 rfl) ?_
      refine va_get (D := D) (ci := 5) (v := .int me) (C := RX5) (T := TX5) (N := 16) hx hb hts (by decide +kernel) hown hK hP 0 rfl rfl 13 (by decide) (hts (.fieldLink RX5 65 "AlarmgroveModel" "events" "I") (by decide +kernel)) (fun _ h9 => h9) rfl dX5_clear_23 ?_
      refine lv_sipush (v := 300) hx hb dX5_clear_26 (by decide) ?_
      refine lv_icmp_ge (tgt := 36) hx hb dX5_clear_29 (by decide) (fun c6 => ?_) (fun c6 => ?_)
      · replace hp := hp.1 c6
        replace he := he.trans (if_pos c6)
        refine lv_iconst (v := 0) hx hb dX5_clear_36 (by decide) ?_
        subst he
        exact kont2 (Or.inl rfl) _ _ hP hD hS _ (lv_sub hl [1, 2] rfl)
      · replace hp := hp.2 c6
        replace he := he.trans (if_neg c6)
        refine lv_iconst (v := 1) hx hb dX5_clear_32 (by decide) ?_
        refine lv_goto (tgt := 37) hx hb dX5_clear_33 (by decide) ?_
        subst he
        exact kont2 (Or.inr rfl) _ _ hP hD hS _ (lv_sub hl [1, 2] rfl)
abbrev rm_X5_raisesOf : Room := { frames := 0, cells := 0, slots := 0, locals := 0 }
abbrev Q_X5_raisesOf (D : va_G) (cI : ClassId) (m0 m1 m2 m3 m4 m5 m6 m7 m8 m9 m10 m11 : Nat) (mr : Int32) (mc : Int32) (me : Int32) (mw : Int32) (mh : Int32) (mn : AA) (mu : AA) (ms : AA) (mt : AA) (md : AA) (mz : AA) (mi : AA) (mk : AA) (mo : AA) (mj : AA) (ml : AA) (a1 a2 : Int32) (A : Nat → Prop) : Array Value → State → Outcome → State → Prop := va_Qi (S := Unit) (fun r u => f_X5_raisesOf me mw mk mo mj a1 a2 = r) (fun u t => QW D [(cI, .int)] A (W_X5 cI m0 m1 m2 m3 m4 m5 m6 m7 m8 m9 m10 m11 mr mc me mw mh mn mu ms mt md mz mi mk mo mj ml) t) A
set_option maxHeartbeats 4000000 in
set_option maxRecDepth 100000 in
theorem c_X5_raisesOf (l : Launch)  (D : va_G) (cI : ClassId) (m0 m1 m2 m3 m4 m5 m6 m7 m8 m9 m10 m11 : Nat) (mr : Int32) (mc : Int32) (me : Int32) (mw : Int32) (mh : Int32) (mn : AA) (mu : AA) (ms : AA) (mt : AA) (md : AA) (mz : AA) (mi : AA) (mk : AA) (mo : AA) (mj : AA) (ml : AA) (sz : Nat) (a1 a2 : Int32) (hp : p_X5_raisesOf me mw mk mo mj a1 a2) : Met l yX5_raisesOf wsX5_raisesOf rm_X5_raisesOf (va_Pc [.ref m0, .int a1, .int a2] (PW D [(cI, .int)] sz (W_X5 cI m0 m1 m2 m3 m4 m5 m6 m7 m8 m9 m10 m11 mr mc me mw mh mn mu ms mt md mz mi mk mo mj ml))) (Q_X5_raisesOf D cI m0 m1 m2 m3 m4 m5 m6 m7 m8 m9 m10 m11 mr mc me mw mh mn mu ms mt md mz mi mk mo mj ml a1 a2 (va_A (W_X5 cI m0 m1 m2 m3 m4 m5 m6 m7 m8 m9 m10 m11 mr mc me mw mh mn mu ms mt md mz mi mk mo mj ml) sz)) 0 0 (va_A (W_X5 cI m0 m1 m2 m3 m4 m5 m6 m7 m8 m9 m10 m11 mr mc me mw mh mn mu ms mt md mz mi mk mo mj ml) sz) := by
  refine Met.ofW (cc := cX5_raisesOf) (maxL := 5) (ret := (some .int)) (by decide) rfl ?_
  intro p e s m args below meth c s₁ B hml hv
  obtain ⟨rfl, hsz, hP, hK, hD0, hN⟩ := hv
  have hx := B.exec
  have hb := B.bytes
  have hr := B.returns
  have hts := atoms_spec (ws := wsX5_raisesOf) B.pre
  have hown : s.vm.findClass RX5 = some m.cls := findClass_of_methodNamed B.named
  have hlocks := B.notSynchronized
  subst hsz
  have hD := hD0.self (sz := s.heap.size)
  generalize hAe : va_A (W_X5 cI m0 m1 m2 m3 m4 m5 m6 m7 m8 m9 m10 m11 mr mc me mw mh mn mu ms mt md mz mi mk mo mj ml) s.heap.size = A at hD ⊢
  have hA : ∀ q : Nat, s.heap.size ≤ q → A q := fun q h => by rw [← hAe]; exact Or.inr h
  have hS : va_S A s.heap s.heap [] := va_S.rf
  have hl := lv_entry ([.ref m0, .int a1, .int a2]) (n := 5) (Nat.le_of_ble_eq_true rfl)
  rw [lg_entry_eq]
  generalize (lg_sl ([.ref m0, .int a1, .int a2]) ++ List.replicate (5 - (lg_sl ([.ref m0, .int a1, .int a2])).length) Slot.unset).toArray = ls at hl ⊢
  have hl : lv_has ls 5 [(0, .ref m0), (1, .int a1), (2, .int a2)] := hl
  have he := f_X5_raisesOf.eq_1 me mw mk mo mj a1 a2
  replace hp := Eq.mp (p_X5_raisesOf.eq_1 ..) hp
  refine lv_iconst (v := 0) hx hb dX5_raisesOf_0 (by decide) ?_
  refine lv_istore_n (lv' := [(3, .int 0), (0, .ref m0), (1, .int a1), (2, .int a2)]) hx hb dX5_raisesOf_1 rfl hl (by decide) rfl (fun ls hl => ?_)
  refine lv_iconst (v := 0) hx hb dX5_raisesOf_2 (by decide) ?_
  refine lv_istore (lv' := [(4, .int 0), (3, .int 0), (0, .ref m0), (1, .int a1), (2, .int a2)]) hx hb dX5_raisesOf_3 hl (by decide) rfl (fun ls hl => ?_)
  obtain ⟨⟨r1_v5_3, r1_v5_4⟩, hL1⟩ : ∃ z, z = f_X5_raisesOf_L5 me mw mk mo mj a1 a2 301 (0 : Int32) (0 : Int32) := ⟨_, rfl⟩
  rw [← hL1] at he
  try dsimp only at he
  have hpL1 := hp.1
  replace hp := hp.2 _ _ hL1.symm
  have kont1 : ∀ (x1_v5_3 : Int32) (x1_v5_4 : Int32), (r1_v5_3, r1_v5_4) = (x1_v5_3, x1_v5_4) → ∀ (H : Heap) (locs : List Loc), va_P D vwCl (W_X5 cI m0 m1 m2 m3 m4 m5 m6 m7 m8 m9 m10 m11 mr mc me mw mh mn mu ms mt md mz mi mk mo mj ml) H → va_D A (W_X5 cI m0 m1 m2 m3 m4 m5 m6 m7 m8 m9 m10 m11 mr mc me mw mh mn mu ms mt md mz mi mk mo mj ml) → va_S A s.heap H locs → ∀ ls : Array Slot, lv_has ls 5 [(3, .int x1_v5_3)] → W p l e (headSpec wsX5_raisesOf rm_X5_raisesOf).room s m ([.ref m0, .int a1, .int a2] : List Value).toArray below meth c H locs 0 0 (MQ below (Q_X5_raisesOf D cI m0 m1 m2 m3 m4 m5 m6 m7 m8 m9 m10 m11 mr mc me mw mh mn mu ms mt md mz mi mk mo mj ml a1 a2 A) ([.ref m0, .int a1, .int a2] : List Value).toArray s 0 0 A) (F0 m 65 ls []) := by
    intro x1_v5_3 x1_v5_4 hxe H locs hP hD hS ls hl
    simp only [Prod.mk.injEq] at hxe
    obtain ⟨rfl, rfl⟩ := hxe
    refine lv_iload_n hx hb dX5_raisesOf_65 rfl (lv_at hl 0 rfl) ?_
    exact W.iret (v := r1_v5_3) hx hb hr (fun t ht hW => ⟨⟨r1_v5_3, (), rfl, he, by rw [ht]; exact hP, va_K.moved hW.alike hK, hD⟩, hS.F ht⟩) hS.2.2 dX5_raisesOf_66
  have loop1 : ∀ (n : Nat) (v5_3 : Int32) (v5_4 : Int32), p_X5_raisesOf_L5 me mw mk mo mj a1 a2 n v5_3 v5_4 → (r1_v5_3, r1_v5_4) = f_X5_raisesOf_L5 me mw mk mo mj a1 a2 n v5_3 v5_4 → ∀ (H : Heap) (locs : List Loc), va_P D vwCl (W_X5 cI m0 m1 m2 m3 m4 m5 m6 m7 m8 m9 m10 m11 mr mc me mw mh mn mu ms mt md mz mi mk mo mj ml) H → va_D A (W_X5 cI m0 m1 m2 m3 m4 m5 m6 m7 m8 m9 m10 m11 mr mc me mw mh mn mu ms mt md mz mi mk mo mj ml) → va_S A s.heap H locs → ∀ ls : Array Slot, lv_has ls 5 [(4, .int v5_4), (3, .int v5_3), (0, .ref m0), (1, .int a1), (2, .int a2)] → W p l e (headSpec wsX5_raisesOf rm_X5_raisesOf).room s m ([.ref m0, .int a1, .int a2] : List Value).toArray below meth c H locs 0 0 (MQ below (Q_X5_raisesOf D cI m0 m1 m2 m3 m4 m5 m6 m7 m8 m9 m10 m11 mr mc me mw mh mn mu ms mt md mz mi mk mo mj ml a1 a2 A) ([.ref m0, .int a1, .int a2] : List Value).toArray s 0 0 A) (F0 m 5 ls []) := by
    intro n
    induction n with
    | zero => exact fun _ _ hp => hp.elim
    | succ n ih =>
      intro v5_3 v5_4 hp he H locs hP hD hS ls hl
      replace hp := Eq.mp (p_X5_raisesOf_L5.eq_2 ..) hp
      replace he := he.trans (f_X5_raisesOf_L5.eq_2 ..)
      refine lv_iload hx hb dX5_raisesOf_5 (lv_at hl 0 rfl) ?_
      refine lv_aload_n hx hb dX5_raisesOf_7 rfl (lv_at hl 2 rfl) ?_
      refine va_get (D := D) (ci := 5) (v := .int me) (C := RX5) (T := TX5) (N := 16) hx hb hts (by decide +kernel) hown hK hP 0 rfl rfl 13 (by decide) (hts (.fieldLink RX5 65 "AlarmgroveModel" "events" "I") (by decide +kernel)) (fun _ h9 => h9) rfl dX5_raisesOf_8 ?_
      refine lv_icmp_ge (tgt := 65) hx hb dX5_raisesOf_11 (by decide) (fun c2 => ?_) (fun c2 => ?_)
      · replace hp := hp.1 c2
        replace he := he.trans (if_pos c2)
        exact kont1 _ _ he _ _ hP hD hS _ (lv_sub hl [1] rfl)
      · replace hp := hp.2 c2
        replace he := he.trans (if_neg c2)
        refine lv_iload_n hx hb dX5_raisesOf_14 rfl (lv_at hl 1 rfl) ?_
        refine lv_aload_n hx hb dX5_raisesOf_15 rfl (lv_at hl 2 rfl) ?_
        refine va_get (D := D) (ci := 5) (v := .ref m8) (C := RX5) (T := TX5) (N := 16) hx hb hts (by decide +kernel) hown hK hP 0 rfl rfl 9 (by decide) (hts (.fieldLink RX5 31 "AlarmgroveModel" "kind" "[I") (by decide +kernel)) (fun _ h9 => h9) rfl dX5_raisesOf_16 ?_
        refine lv_iload hx hb dX5_raisesOf_19 (lv_at hl 0 rfl) ?_
        have h3 := hp.1
        replace hp := hp.2
        refine va_iald hx hb hK hP 8 0 rfl rfl h3 dX5_raisesOf_21 ?_
        obtain ⟨j4, hJ4⟩ : ∃ z : Int32, z = (if (mk (v5_4).toNatClampNeg) = 0 then (if (mo (v5_4).toNatClampNeg) = a1 then (if (mj (v5_4).toNatClampNeg) ≤ (mw - a2) then (0 : Int32) else (1 : Int32)) else (0 : Int32)) else (0 : Int32)) := ⟨_, rfl⟩
        rw [← hJ4] at he
        try dsimp only at he
        have hpJ4 := hp.1
        replace hp := hp.2 _  hJ4.symm
        have kont4 : (j4 = 0 ∨ j4 = 1) → ∀ (H : Heap) (locs : List Loc), va_P D vwCl (W_X5 cI m0 m1 m2 m3 m4 m5 m6 m7 m8 m9 m10 m11 mr mc me mw mh mn mu ms mt md mz mi mk mo mj ml) H → va_D A (W_X5 cI m0 m1 m2 m3 m4 m5 m6 m7 m8 m9 m10 m11 mr mc me mw mh mn mu ms mt md mz mi mk mo mj ml) → va_S A s.heap H locs → ∀ ls : Array Slot, lv_has ls 5 [(4, .int v5_4), (0, .ref m0), (1, .int a1), (2, .int a2)] → W p l e (headSpec wsX5_raisesOf rm_X5_raisesOf).room s m ([.ref m0, .int a1, .int a2] : List Value).toArray below meth c H locs 0 0 (MQ below (Q_X5_raisesOf D cI m0 m1 m2 m3 m4 m5 m6 m7 m8 m9 m10 m11 mr mc me mw mh mn mu ms mt md mz mi mk mo mj ml a1 a2 A) ([.ref m0, .int a1, .int a2] : List Value).toArray s 0 0 A) (F0 m 57 ls [.int j4, .int v5_3]) := by
          intro hb4 H locs hP hD hS ls hl
          refine lv_iadd hx hb dX5_raisesOf_57 ?_
          refine lv_istore_n (lv' := [(3, .int (v5_3 + j4)), (4, .int v5_4), (0, .ref m0), (1, .int a1), (2, .int a2)]) hx hb dX5_raisesOf_58 rfl hl (by decide) rfl (fun ls hl => ?_)
          refine lv_iinc (v := (v5_4 + 1)) (lv' := [(4, .int (v5_4 + 1)), (3, .int (v5_3 + j4)), (0, .ref m0), (1, .int a1), (2, .int a2)]) hx hb dX5_raisesOf_59 hl (k := 1) rfl rfl (by decide) rfl (fun ls hl => ?_)
          refine lv_goto (tgt := 5) hx hb dX5_raisesOf_62 (by decide) ?_
          exact ih _ _ hp he _ _ hP hD hS _ (lv_sub hl [0, 1, 2, 3, 4] rfl)
        replace he := hJ4
        replace hp := hpJ4
        refine lv_if_ne (tgt := 56) hx hb dX5_raisesOf_22 (by decide) (fun c5 => ?_) (fun c5 => ?_)
        · replace hp := hp.2 c5
          replace he := he.trans (if_neg c5)
          refine lv_iconst (v := 0) hx hb dX5_raisesOf_56 (by decide) ?_
          subst he
          exact kont4 (Or.inl rfl) _ _ hP hD hS _ (lv_sub hl [0, 2, 3, 4] rfl)
        · replace hp := hp.1 c5
          replace he := he.trans (if_pos c5)
          refine lv_aload_n hx hb dX5_raisesOf_25 rfl (lv_at hl 2 rfl) ?_
          refine va_get (D := D) (ci := 5) (v := .ref m9) (C := RX5) (T := TX5) (N := 16) hx hb hts (by decide +kernel) hown hK hP 0 rfl rfl 10 (by decide) (hts (.fieldLink RX5 34 "AlarmgroveModel" "node" "[I") (by decide +kernel)) (fun _ h9 => h9) rfl dX5_raisesOf_26 ?_
          refine lv_iload hx hb dX5_raisesOf_29 (lv_at hl 0 rfl) ?_
          have h6 := hp.1
          replace hp := hp.2
          refine va_iald hx hb hK hP 9 0 rfl rfl h6 dX5_raisesOf_31 ?_
          refine lv_iload_n hx hb dX5_raisesOf_32 rfl (lv_at hl 3 rfl) ?_
          refine lv_icmp_ne (tgt := 56) hx hb dX5_raisesOf_33 (by decide) (fun c7 => ?_) (fun c7 => ?_)
          · replace hp := hp.2 c7
            replace he := he.trans (if_neg c7)
            refine lv_iconst (v := 0) hx hb dX5_raisesOf_56 (by decide) ?_
            subst he
            exact kont4 (Or.inl rfl) _ _ hP hD hS _ (lv_sub hl [0, 2, 3, 4] rfl)
          · replace hp := hp.1 c7
            replace he := he.trans (if_pos c7)
            refine lv_aload_n hx hb dX5_raisesOf_36 rfl (lv_at hl 2 rfl) ?_
            refine va_get (D := D) (ci := 5) (v := .ref m10) (C := RX5) (T := TX5) (N := 16) hx hb hts (by decide +kernel) hown hK hP 0 rfl rfl 11 (by decide) (hts (.fieldLink RX5 37 "AlarmgroveModel" "time" "[I") (by decide +kernel)) (fun _ h9 => h9) rfl dX5_raisesOf_37 ?_
            refine lv_iload hx hb dX5_raisesOf_40 (lv_at hl 0 rfl) ?_
            have h8 := hp.1
            replace hp := hp.2
            refine va_iald hx hb hK hP 10 0 rfl rfl h8 dX5_raisesOf_42 ?_
            refine lv_aload_n hx hb dX5_raisesOf_43 rfl (lv_at hl 2 rfl) ?_
            refine va_get (D := D) (ci := 5) (v := .int mw) (C := RX5) (T := TX5) (N := 16) hx hb hts (by decide +kernel) hown hK hP 0 rfl rfl 14 (by decide) (hts (.fieldLink RX5 62 "AlarmgroveModel" "now" "I") (by decide +kernel)) (fun _ h9 => h9) rfl dX5_raisesOf_44 ?_
            refine lv_iload_n hx hb dX5_raisesOf_47 rfl (lv_at hl 4 rfl) ?_
            refine lv_isub hx hb dX5_raisesOf_48 ?_
            refine lv_icmp_le (tgt := 56) hx hb dX5_raisesOf_49 (by decide) (fun c9 => ?_) (fun c9 => ?_)
            · replace hp := hp.1 c9
              replace he := he.trans (if_pos c9)
              refine lv_iconst (v := 0) hx hb dX5_raisesOf_56 (by decide) ?_
              subst he
              exact kont4 (Or.inl rfl) _ _ hP hD hS _ (lv_sub hl [0, 2, 3, 4] rfl)
            · replace hp := hp.2 c9
              replace he := he.trans (if_neg c9)
              refine lv_iconst (v := 1) hx hb dX5_raisesOf_52 (by decide) ?_
              refine lv_goto (tgt := 57) hx hb dX5_raisesOf_53 (by decide) ?_
              subst he
              exact kont4 (Or.inr rfl) _ _ hP hD hS _ (lv_sub hl [0, 2, 3, 4] rfl)
  exact loop1 301 (0 : Int32) (0 : Int32) hpL1 hL1 _ _ hP hD hS _ (lv_sub hl [0, 1, 2, 3, 4] rfl)
abbrev rm_X5_stateOf : Room := { frames := 1, cells := 0, slots := 0, locals := 24 }
abbrev Q_X5_stateOf (D : va_G) (cI : ClassId) (m0 m1 m2 m3 m4 m5 m6 m7 m8 m9 m10 m11 : Nat) (mr : Int32) (mc : Int32) (me : Int32) (mw : Int32) (mh : Int32) (mn : AA) (mu : AA) (ms : AA) (mt : AA) (md : AA) (mz : AA) (mi : AA) (mk : AA) (mo : AA) (mj : AA) (ml : AA) (a1 : Int32) (A : Nat → Prop) : Array Value → State → Outcome → State → Prop := va_Qi (S := Unit) (fun r u => f_X5_stateOf mr me mw mu mk mo mj a1 = r) (fun u t => QW D [(cI, .int)] A (W_X5 cI m0 m1 m2 m3 m4 m5 m6 m7 m8 m9 m10 m11 mr mc me mw mh mn mu ms mt md mz mi mk mo mj ml) t) A
set_option maxHeartbeats 4000000 in
set_option maxRecDepth 100000 in
theorem c_X5_stateOf (l : Launch)  (D : va_G) (cI : ClassId) (m0 m1 m2 m3 m4 m5 m6 m7 m8 m9 m10 m11 : Nat) (mr : Int32) (mc : Int32) (me : Int32) (mw : Int32) (mh : Int32) (mn : AA) (mu : AA) (ms : AA) (mt : AA) (md : AA) (mz : AA) (mi : AA) (mk : AA) (mo : AA) (mj : AA) (ml : AA) (sz : Nat) (a1 : Int32) (hp : p_X5_stateOf mr me mw mu mk mo mj a1) : Met l yX5_stateOf wsX5_stateOf rm_X5_stateOf (va_Pc [.ref m0, .int a1] (PW D [(cI, .int)] sz (W_X5 cI m0 m1 m2 m3 m4 m5 m6 m7 m8 m9 m10 m11 mr mc me mw mh mn mu ms mt md mz mi mk mo mj ml))) (Q_X5_stateOf D cI m0 m1 m2 m3 m4 m5 m6 m7 m8 m9 m10 m11 mr mc me mw mh mn mu ms mt md mz mi mk mo mj ml a1 (va_A (W_X5 cI m0 m1 m2 m3 m4 m5 m6 m7 m8 m9 m10 m11 mr mc me mw mh mn mu ms mt md mz mi mk mo mj ml) sz)) 0 0 (va_A (W_X5 cI m0 m1 m2 m3 m4 m5 m6 m7 m8 m9 m10 m11 mr mc me mw mh mn mu ms mt md mz mi mk mo mj ml) sz) := by
  refine Met.ofW (cc := cX5_stateOf) (maxL := 2) (ret := (some .int)) (by decide) rfl ?_
  intro p e s m args below meth c s₁ B hml hv
  obtain ⟨rfl, hsz, hP, hK, hD0, hN⟩ := hv
  have hx := B.exec
  have hb := B.bytes
  have hr := B.returns
  have hts := atoms_spec (ws := wsX5_stateOf) B.pre
  have hown : s.vm.findClass RX5 = some m.cls := findClass_of_methodNamed B.named
  have hlocks := B.notSynchronized
  subst hsz
  have hD := hD0.self (sz := s.heap.size)
  generalize hAe : va_A (W_X5 cI m0 m1 m2 m3 m4 m5 m6 m7 m8 m9 m10 m11 mr mc me mw mh mn mu ms mt md mz mi mk mo mj ml) s.heap.size = A at hD ⊢
  have hA : ∀ q : Nat, s.heap.size ≤ q → A q := fun q h => by rw [← hAe]; exact Or.inr h
  have hS : va_S A s.heap s.heap [] := va_S.rf
  have hl := lv_entry ([.ref m0, .int a1]) (n := 2) (Nat.le_of_ble_eq_true rfl)
  rw [lg_entry_eq]
  generalize (lg_sl ([.ref m0, .int a1]) ++ List.replicate (2 - (lg_sl ([.ref m0, .int a1])).length) Slot.unset).toArray = ls at hl ⊢
  have hl : lv_has ls 2 [(0, .ref m0), (1, .int a1)] := hl
  have he := f_X5_stateOf.eq_1 mr me mw mu mk mo mj a1
  replace hp := Eq.mp (p_X5_stateOf.eq_1 ..) hp
  refine lv_aload_n hx hb dX5_stateOf_0 rfl (lv_at hl 0 rfl) ?_
  refine va_get (D := D) (ci := 5) (v := .int mr) (C := RX5) (T := TX5) (N := 16) hx hb hts (by decide +kernel) hown hK hP 0 rfl rfl 2 (by decide) (hts (.fieldLink RX5 68 "AlarmgroveModel" "raised" "I") (by decide +kernel)) (fun _ h9 => h9) rfl dX5_stateOf_1 ?_
  refine lv_iload_n hx hb dX5_stateOf_4 rfl (lv_at hl 1 rfl) ?_
  refine k_calli (S := Unit) (wc := ([] : va_W)) (wr := (W_X5 cI m0 m1 m2 m3 m4 m5 m6 m7 m8 m9 m10 m11 mr mc me mw mh mn mu ms mt md mz mi mk mo mj ml)) (w1 := fun u => ([] : va_W)) (fun u => (W_X5 cI m0 m1 m2 m3 m4 m5 m6 m7 m8 m9 m10 m11 mr mc me mw mh mn mu ms mt md mz mi mk mo mj ml)) hP hK hD hN hS hA [] [0, 1, 2, 3, 4, 5, 6, 7, 8, 9, 10, 11] rfl rfl (by decide) (by decide) (by decide) [0, 1, 2, 3, 4, 5, 6, 7, 8, 9, 10, 11] (by decide) (fun _ => rfl) (fun hg => va_runS (As := [.int mr, .int a1]) (rest := []) ⟨hx, hb, hml, hown, hts⟩ (c_X5_has l D cI _ mr a1) (va_cwS 2 hts gX5_stateOf_X5_has rfl rfl rfl (by decide +kernel) ⟨Nat.le_of_ble_eq_true rfl, Nat.le_of_ble_eq_true rfl⟩) ⟨PW.blind, fun U hU hW => ⟨rfl, hg U hU hW⟩⟩ rfl rfl hl.1 rfl (lv_room (Nat.le_of_ble_eq_true rfl)) dX5_stateOf_5 ⟨Nat.le_of_ble_eq_true rfl, Nat.le_of_ble_eq_true rfl⟩) (fun r1 u H locs hw hP hD hS => ?_)
  obtain ⟨hw, hb1⟩ := hw
  subst hw
  refine lv_if_ne (tgt := 13) hx hb dX5_stateOf_8 (by decide) (fun c2 => ?_) (fun c2 => ?_)
  · replace hp := hp.2 c2
    replace he := he.trans (if_neg c2)
    refine lv_aload_n hx hb dX5_stateOf_13 rfl (lv_at hl 0 rfl) ?_
    refine lv_iload_n hx hb dX5_stateOf_14 rfl (lv_at hl 1 rfl) ?_
    refine lv_bipush (v := 10) hx hb dX5_stateOf_15 (by decide) ?_
    have hq3 := hp.1
    replace hp := hp.2
    refine k_calli (S := Unit) (wc := (W_X5 cI m0 m1 m2 m3 m4 m5 m6 m7 m8 m9 m10 m11 mr mc me mw mh mn mu ms mt md mz mi mk mo mj ml)) (wr := ([] : va_W)) (w1 := fun u => (W_X5 cI m0 m1 m2 m3 m4 m5 m6 m7 m8 m9 m10 m11 mr mc me mw mh mn mu ms mt md mz mi mk mo mj ml)) (fun u => (W_X5 cI m0 m1 m2 m3 m4 m5 m6 m7 m8 m9 m10 m11 mr mc me mw mh mn mu ms mt md mz mi mk mo mj ml)) hP hK hD hN hS hA [0, 1, 2, 3, 4, 5, 6, 7, 8, 9, 10, 11] [] rfl rfl (by decide) (by decide) (by decide) [0, 1, 2, 3, 4, 5, 6, 7, 8, 9, 10, 11] (by decide) (fun _ => rfl) (fun hg => va_runV (As := [.int a1, .int 10]) (rest := []) ⟨hx, hb, hml, hown, hts⟩ (c_X5_raisesOf l D cI m0 m1 m2 m3 m4 m5 m6 m7 m8 m9 m10 m11 mr mc me mw mh mn mu ms mt md mz mi mk mo mj ml _ a1 10 hq3) (cwV 2 hts gX5_stateOf_X5_raisesOf rfl rfl rfl (by decide +kernel) ⟨Nat.le_of_ble_eq_true rfl, Nat.le_of_ble_eq_true rfl⟩) ⟨PW.blind, va_recv hK hP (ci := 5) (q0 := 0) rfl rfl, fun U hU hW => ⟨rfl, hg U hU hW⟩⟩ rfl rfl hl.1 rfl (lv_room (Nat.le_of_ble_eq_true rfl)) dX5_stateOf_17 ⟨Nat.le_of_ble_eq_true rfl, Nat.le_of_ble_eq_true rfl⟩) (fun r3 u H locs hw hP hD hS => ?_)
    subst hw
    refine lv_iconst (v := 3) hx hb dX5_stateOf_20 (by decide) ?_
    obtain ⟨j4, hJ4⟩ : ∃ z : Int32, z = (if (f_X5_raisesOf me mw mk mo mj a1 (10 : Int32)) < 3 then (if ((mu (a1).toNatClampNeg) &&& mr) = 0 then (1 : Int32) else (3 : Int32)) else (2 : Int32)) := ⟨_, rfl⟩
    rw [← hJ4] at he
    try dsimp only at he
    have hpJ4 := hp.1
    replace hp := hp.2 _  hJ4.symm
    have kont4 : ∀ (H : Heap) (locs : List Loc), va_P D vwCl (W_X5 cI m0 m1 m2 m3 m4 m5 m6 m7 m8 m9 m10 m11 mr mc me mw mh mn mu ms mt md mz mi mk mo mj ml) H → va_D A (W_X5 cI m0 m1 m2 m3 m4 m5 m6 m7 m8 m9 m10 m11 mr mc me mw mh mn mu ms mt md mz mi mk mo mj ml) → va_S A s.heap H locs → ∀ ls : Array Slot, lv_has ls 2 [] → W p l e (headSpec wsX5_stateOf rm_X5_stateOf).room s m ([.ref m0, .int a1] : List Value).toArray below meth c H locs 0 0 (MQ below (Q_X5_stateOf D cI m0 m1 m2 m3 m4 m5 m6 m7 m8 m9 m10 m11 mr mc me mw mh mn mu ms mt md mz mi mk mo mj ml a1 A) ([.ref m0, .int a1] : List Value).toArray s 0 0 A) (F0 m 47 ls [.int j4]) := by
      intro H locs hP hD hS ls hl
      exact W.iret (v := j4) hx hb hr (fun t ht hW => ⟨⟨j4, (), rfl, he, by rw [ht]; exact hP, va_K.moved hW.alike hK, hD⟩, hS.F ht⟩) hS.2.2 dX5_stateOf_47
    replace he := hJ4
    replace hp := hpJ4
    refine lv_icmp_lt (tgt := 28) hx hb dX5_stateOf_21 (by decide) (fun c5 => ?_) (fun c5 => ?_)
    · replace hp := hp.1 c5
      replace he := he.trans (if_pos c5)
      refine lv_aload_n hx hb dX5_stateOf_28 rfl (lv_at hl 0 rfl) ?_
      refine va_get (D := D) (ci := 5) (v := .ref m2) (C := RX5) (T := TX5) (N := 16) hx hb hts (by decide +kernel) hown hK hP 0 rfl rfl 1 (by decide) (hts (.fieldLink RX5 13 "AlarmgroveModel" "under" "[I") (by decide +kernel)) (fun _ h9 => h9) rfl dX5_stateOf_29 ?_
      refine lv_iload_n hx hb dX5_stateOf_32 rfl (lv_at hl 1 rfl) ?_
      have h6 := hp.1
      replace hp := hp.2
      refine va_iald hx hb hK hP 2 0 rfl rfl h6 dX5_stateOf_33 ?_
      refine lv_aload_n hx hb dX5_stateOf_34 rfl (lv_at hl 0 rfl) ?_
      refine va_get (D := D) (ci := 5) (v := .int mr) (C := RX5) (T := TX5) (N := 16) hx hb hts (by decide +kernel) hown hK hP 0 rfl rfl 2 (by decide) (hts (.fieldLink RX5 68 "AlarmgroveModel" "raised" "I") (by decide +kernel)) (fun _ h9 => h9) rfl dX5_stateOf_35 ?_
      refine lv_iand hx hb dX5_stateOf_38 ?_
      refine lv_if_eq (tgt := 46) hx hb dX5_stateOf_39 (by decide) (fun c7 => ?_) (fun c7 => ?_)
      · replace hp := hp.1 c7
        replace he := he.trans (if_pos c7)
        refine lv_iconst (v := 1) hx hb dX5_stateOf_46 (by decide) ?_
        subst he
        exact kont4 _ _ hP hD hS _ (lv_sub hl [] rfl)
      · replace hp := hp.2 c7
        replace he := he.trans (if_neg c7)
        refine lv_iconst (v := 3) hx hb dX5_stateOf_42 (by decide) ?_
        refine lv_goto (tgt := 47) hx hb dX5_stateOf_43 (by decide) ?_
        subst he
        exact kont4 _ _ hP hD hS _ (lv_sub hl [] rfl)
    · replace hp := hp.2 c5
      replace he := he.trans (if_neg c5)
      refine lv_iconst (v := 2) hx hb dX5_stateOf_24 (by decide) ?_
      refine lv_goto (tgt := 47) hx hb dX5_stateOf_25 (by decide) ?_
      subst he
      exact kont4 _ _ hP hD hS _ (lv_sub hl [] rfl)
  · replace hp := hp.1 c2
    replace he := he.trans (if_pos c2)
    refine lv_iconst (v := 0) hx hb dX5_stateOf_11 (by decide) ?_
    exact W.iret (v := 0) hx hb hr (fun t ht hW => ⟨⟨0, (), rfl, he, by rw [ht]; exact hP, va_K.moved hW.alike hK, hD⟩, hS.F ht⟩) hS.2.2 dX5_stateOf_12
abbrev rm_X5_state : Room := { frames := 2, cells := 0, slots := 0, locals := 45 }
abbrev Q_X5_state (D : va_G) (cI : ClassId) (m0 m1 m2 m3 m4 m5 m6 m7 m8 m9 m10 m11 : Nat) (mr : Int32) (mc : Int32) (me : Int32) (mw : Int32) (mh : Int32) (mn : AA) (mu : AA) (ms : AA) (mt : AA) (md : AA) (mz : AA) (mi : AA) (mk : AA) (mo : AA) (mj : AA) (ml : AA) (a1 : Int32) (A : Nat → Prop) : Array Value → State → Outcome → State → Prop := va_Qi (S := Int32) (fun r u => f_X5_state mr me mw mu mk mo mj a1 = (r, u)) (fun u t => QW D [(cI, .int)] A (W_X5 cI m0 m1 m2 m3 m4 m5 m6 m7 m8 m9 m10 m11 mr mc me mw u mn mu ms mt md mz mi mk mo mj ml) t) A
set_option maxHeartbeats 4000000 in
set_option maxRecDepth 100000 in
theorem c_X5_state (l : Launch)  (D : va_G) (cI : ClassId) (m0 m1 m2 m3 m4 m5 m6 m7 m8 m9 m10 m11 : Nat) (mr : Int32) (mc : Int32) (me : Int32) (mw : Int32) (mh : Int32) (mn : AA) (mu : AA) (ms : AA) (mt : AA) (md : AA) (mz : AA) (mi : AA) (mk : AA) (mo : AA) (mj : AA) (ml : AA) (sz : Nat) (a1 : Int32) (hp : p_X5_state mr me mw mu mk mo mj a1) : Met l yX5_state wsX5_state rm_X5_state (va_Pc [.ref m0, .int a1] (PW D [(cI, .int)] sz (W_X5 cI m0 m1 m2 m3 m4 m5 m6 m7 m8 m9 m10 m11 mr mc me mw mh mn mu ms mt md mz mi mk mo mj ml))) (Q_X5_state D cI m0 m1 m2 m3 m4 m5 m6 m7 m8 m9 m10 m11 mr mc me mw mh mn mu ms mt md mz mi mk mo mj ml a1 (va_A (W_X5 cI m0 m1 m2 m3 m4 m5 m6 m7 m8 m9 m10 m11 mr mc me mw mh mn mu ms mt md mz mi mk mo mj ml) sz)) 0 0 (va_A (W_X5 cI m0 m1 m2 m3 m4 m5 m6 m7 m8 m9 m10 m11 mr mc me mw mh mn mu ms mt md mz mi mk mo mj ml) sz) := by
  refine Met.ofW (cc := cX5_state) (maxL := 2) (ret := (some .int)) (by decide) rfl ?_
  intro p e s m args below meth c s₁ B hml hv
  obtain ⟨rfl, hsz, hP, hK, hD0, hN⟩ := hv
  have hx := B.exec
  have hb := B.bytes
  have hr := B.returns
  have hts := atoms_spec (ws := wsX5_state) B.pre
  have hown : s.vm.findClass RX5 = some m.cls := findClass_of_methodNamed B.named
  have hlocks := B.notSynchronized
  subst hsz
  have hD := hD0.self (sz := s.heap.size)
  generalize hAe : va_A (W_X5 cI m0 m1 m2 m3 m4 m5 m6 m7 m8 m9 m10 m11 mr mc me mw mh mn mu ms mt md mz mi mk mo mj ml) s.heap.size = A at hD ⊢
  have hA : ∀ q : Nat, s.heap.size ≤ q → A q := fun q h => by rw [← hAe]; exact Or.inr h
  have hS : va_S A s.heap s.heap [] := va_S.rf
  have hl := lv_entry ([.ref m0, .int a1]) (n := 2) (Nat.le_of_ble_eq_true rfl)
  rw [lg_entry_eq]
  generalize (lg_sl ([.ref m0, .int a1]) ++ List.replicate (2 - (lg_sl ([.ref m0, .int a1])).length) Slot.unset).toArray = ls at hl ⊢
  have hl : lv_has ls 2 [(0, .ref m0), (1, .int a1)] := hl
  have he := f_X5_state.eq_1 mr me mw mu mk mo mj a1
  replace hp := Eq.mp (p_X5_state.eq_1 ..) hp
  refine lv_aload_n hx hb dX5_state_0 rfl (lv_at hl 0 rfl) ?_
  refine lv_iload_n hx hb dX5_state_1 rfl (lv_at hl 1 rfl) ?_
  refine k_calli (S := Unit) (wc := ([] : va_W)) (wr := (W_X5 cI m0 m1 m2 m3 m4 m5 m6 m7 m8 m9 m10 m11 mr mc me mw mh mn mu ms mt md mz mi mk mo mj ml)) (w1 := fun u => ([] : va_W)) (fun u => (W_X5 cI m0 m1 m2 m3 m4 m5 m6 m7 m8 m9 m10 m11 mr mc me mw mh mn mu ms mt md mz mi mk mo mj ml)) hP hK hD hN hS hA [] [0, 1, 2, 3, 4, 5, 6, 7, 8, 9, 10, 11] rfl rfl (by decide) (by decide) (by decide) [0, 1, 2, 3, 4, 5, 6, 7, 8, 9, 10, 11] (by decide) (fun _ => rfl) (fun hg => va_runS (As := [.int a1]) (rest := [.ref m0]) ⟨hx, hb, hml, hown, hts⟩ (c_X5_isNode l D cI _ a1) (va_cwS 1 hts gX5_state_X5_isNode rfl rfl rfl (by decide +kernel) ⟨Nat.le_of_ble_eq_true rfl, Nat.le_of_ble_eq_true rfl⟩) ⟨PW.blind, fun U hU hW => ⟨rfl, hg U hU hW⟩⟩ rfl rfl hl.1 rfl (lv_room (Nat.le_of_ble_eq_true rfl)) dX5_state_2 ⟨Nat.le_of_ble_eq_true rfl, Nat.le_of_ble_eq_true rfl⟩) (fun r1 u H locs hw hP hD hS => ?_)
  obtain ⟨hw, hb1⟩ := hw
  subst hw
  refine lv_iconst (v := 1) hx hb dX5_state_5 (by decide) ?_
  refine k_calli (S := Int32) (wc := (W_X5 cI m0 m1 m2 m3 m4 m5 m6 m7 m8 m9 m10 m11 mr mc me mw mh mn mu ms mt md mz mi mk mo mj ml)) (wr := ([] : va_W)) (w1 := fun u => (W_X5 cI m0 m1 m2 m3 m4 m5 m6 m7 m8 m9 m10 m11 mr mc me mw u mn mu ms mt md mz mi mk mo mj ml)) (fun u => (W_X5 cI m0 m1 m2 m3 m4 m5 m6 m7 m8 m9 m10 m11 mr mc me mw u mn mu ms mt md mz mi mk mo mj ml)) hP hK hD hN hS hA [0, 1, 2, 3, 4, 5, 6, 7, 8, 9, 10, 11] [] rfl rfl (by decide) (by decide) (by decide) [0, 1, 2, 3, 4, 5, 6, 7, 8, 9, 10, 11] (by decide) (fun _ => rfl) (fun hg => va_runV (As := [.int (f_X5_isNode a1), .int 1]) (rest := []) ⟨hx, hb, hml, hown, hts⟩ (c_X5_goes l D cI m0 m1 m2 m3 m4 m5 m6 m7 m8 m9 m10 m11 mr mc me mw mh mn mu ms mt md mz mi mk mo mj ml _ (f_X5_isNode a1) 1) (cwV 2 hts gX5_state_X5_goes rfl rfl rfl (by decide +kernel) ⟨Nat.le_of_ble_eq_true rfl, Nat.le_of_ble_eq_true rfl⟩) ⟨PW.blind, va_recv hK hP (ci := 5) (q0 := 0) rfl rfl, fun U hU hW => ⟨rfl, hg U hU hW⟩⟩ rfl rfl hl.1 rfl (lv_room (Nat.le_of_ble_eq_true rfl)) dX5_state_6 ⟨Nat.le_of_ble_eq_true rfl, Nat.le_of_ble_eq_true rfl⟩) (fun r2 u H locs hw hP hD hS => ?_)
  obtain ⟨u2_0, rfl⟩ : ∃ z, z = u := ⟨_, rfl⟩
  obtain ⟨hw, hb2⟩ := hw
  rw [hw] at he
  try dsimp only at he
  replace hp := hp r2 u2_0 hw
  have hP : va_P D vwCl (W_X5 cI m0 m1 m2 m3 m4 m5 m6 m7 m8 m9 m10 m11 mr mc me mw u2_0 mn mu ms mt md mz mi mk mo mj ml) H := hP
  have hD : va_D A (W_X5 cI m0 m1 m2 m3 m4 m5 m6 m7 m8 m9 m10 m11 mr mc me mw u2_0 mn mu ms mt md mz mi mk mo mj ml) := hD
  obtain ⟨j3, hJ3⟩ : ∃ z : Int32, z = (if r2 = 0 then (0 : Int32) else (f_X5_stateOf mr me mw mu mk mo mj a1)) := ⟨_, rfl⟩
  rw [← hJ3] at he
  try dsimp only at he
  have hpJ3 := hp.1
  replace hp := hp.2 _  hJ3.symm
  have kont3 : ∀ (H : Heap) (locs : List Loc), va_P D vwCl (W_X5 cI m0 m1 m2 m3 m4 m5 m6 m7 m8 m9 m10 m11 mr mc me mw u2_0 mn mu ms mt md mz mi mk mo mj ml) H → va_D A (W_X5 cI m0 m1 m2 m3 m4 m5 m6 m7 m8 m9 m10 m11 mr mc me mw u2_0 mn mu ms mt md mz mi mk mo mj ml) → va_S A s.heap H locs → ∀ ls : Array Slot, lv_has ls 2 [] → W p l e (headSpec wsX5_state rm_X5_state).room s m ([.ref m0, .int a1] : List Value).toArray below meth c H locs 0 0 (MQ below (Q_X5_state D cI m0 m1 m2 m3 m4 m5 m6 m7 m8 m9 m10 m11 mr mc me mw mh mn mu ms mt md mz mi mk mo mj ml a1 A) ([.ref m0, .int a1] : List Value).toArray s 0 0 A) (F0 m 21 ls [.int j3]) := by
    intro H locs hP hD hS ls hl
    exact W.iret (v := j3) hx hb hr (fun t ht hW => ⟨⟨j3, u2_0, rfl, he, by rw [ht]; exact hP, va_K.moved hW.alike hK, hD⟩, hS.F ht⟩) hS.2.2 dX5_state_21
  replace he := hJ3
  replace hp := hpJ3
  refine lv_if_eq (tgt := 20) hx hb dX5_state_9 (by decide) (fun c4 => ?_) (fun c4 => ?_)
  · replace hp := hp.1 c4
    replace he := he.trans (if_pos c4)
    refine lv_iconst (v := 0) hx hb dX5_state_20 (by decide) ?_
    subst he
    exact kont3 _ _ hP hD hS _ (lv_sub hl [] rfl)
  · replace hp := hp.2 c4
    replace he := he.trans (if_neg c4)
    refine lv_aload_n hx hb dX5_state_12 rfl (lv_at hl 0 rfl) ?_
    refine lv_iload_n hx hb dX5_state_13 rfl (lv_at hl 1 rfl) ?_
    have hq5 := hp.1
    replace hp := hp.2
    refine k_calli (S := Unit) (wc := (W_X5 cI m0 m1 m2 m3 m4 m5 m6 m7 m8 m9 m10 m11 mr mc me mw u2_0 mn mu ms mt md mz mi mk mo mj ml)) (wr := ([] : va_W)) (w1 := fun u => (W_X5 cI m0 m1 m2 m3 m4 m5 m6 m7 m8 m9 m10 m11 mr mc me mw u2_0 mn mu ms mt md mz mi mk mo mj ml)) (fun u => (W_X5 cI m0 m1 m2 m3 m4 m5 m6 m7 m8 m9 m10 m11 mr mc me mw u2_0 mn mu ms mt md mz mi mk mo mj ml)) hP hK hD hN hS hA [0, 1, 2, 3, 4, 5, 6, 7, 8, 9, 10, 11] [] rfl rfl (by decide) (by decide) (by decide) [0, 1, 2, 3, 4, 5, 6, 7, 8, 9, 10, 11] (by decide) (fun _ => rfl) (fun hg => va_runV (As := [.int a1]) (rest := []) ⟨hx, hb, hml, hown, hts⟩ (c_X5_stateOf l D cI m0 m1 m2 m3 m4 m5 m6 m7 m8 m9 m10 m11 mr mc me mw u2_0 mn mu ms mt md mz mi mk mo mj ml _ a1 hq5) (cwV 1 hts gX5_state_X5_stateOf rfl rfl rfl (by decide +kernel) ⟨Nat.le_of_ble_eq_true rfl, Nat.le_of_ble_eq_true rfl⟩) ⟨PW.blind, va_recv hK hP (ci := 5) (q0 := 0) rfl rfl, fun U hU hW => ⟨rfl, hg U hU hW⟩⟩ rfl rfl hl.1 rfl (lv_room (Nat.le_of_ble_eq_true rfl)) dX5_state_14 ⟨Nat.le_of_ble_eq_true rfl, Nat.le_of_ble_eq_true rfl⟩) (fun r5 u H locs hw hP hD hS => ?_)
    subst hw
    refine lv_goto (tgt := 21) hx hb dX5_state_17 (by decide) ?_
    subst he
    exact kont3 _ _ hP hD hS _ (lv_sub hl [] rfl)
abbrev rm_X5_nodesThatAre : Room := { frames := 2, cells := 0, slots := 0, locals := 45 }
abbrev Q_X5_nodesThatAre (D : va_G) (cI : ClassId) (m0 m1 m2 m3 m4 m5 m6 m7 m8 m9 m10 m11 : Nat) (mr : Int32) (mc : Int32) (me : Int32) (mw : Int32) (mh : Int32) (mn : AA) (mu : AA) (ms : AA) (mt : AA) (md : AA) (mz : AA) (mi : AA) (mk : AA) (mo : AA) (mj : AA) (ml : AA) (a1 : Int32) (A : Nat → Prop) : Array Value → State → Outcome → State → Prop := va_Qi (S := Int32) (fun r u => f_X5_nodesThatAre mr me mw mu mk mo mj a1 = (r, u)) (fun u t => QW D [(cI, .int)] A (W_X5 cI m0 m1 m2 m3 m4 m5 m6 m7 m8 m9 m10 m11 mr mc me mw u mn mu ms mt md mz mi mk mo mj ml) t) A
set_option maxHeartbeats 4000000 in
set_option maxRecDepth 100000 in
theorem c_X5_nodesThatAre (l : Launch)  (D : va_G) (cI : ClassId) (m0 m1 m2 m3 m4 m5 m6 m7 m8 m9 m10 m11 : Nat) (mr : Int32) (mc : Int32) (me : Int32) (mw : Int32) (mh : Int32) (mn : AA) (mu : AA) (ms : AA) (mt : AA) (md : AA) (mz : AA) (mi : AA) (mk : AA) (mo : AA) (mj : AA) (ml : AA) (sz : Nat) (a1 : Int32) (hp : p_X5_nodesThatAre mr me mw mu mk mo mj a1) : Met l yX5_nodesThatAre wsX5_nodesThatAre rm_X5_nodesThatAre (va_Pc [.ref m0, .int a1] (PW D [(cI, .int)] sz (W_X5 cI m0 m1 m2 m3 m4 m5 m6 m7 m8 m9 m10 m11 mr mc me mw mh mn mu ms mt md mz mi mk mo mj ml))) (Q_X5_nodesThatAre D cI m0 m1 m2 m3 m4 m5 m6 m7 m8 m9 m10 m11 mr mc me mw mh mn mu ms mt md mz mi mk mo mj ml a1 (va_A (W_X5 cI m0 m1 m2 m3 m4 m5 m6 m7 m8 m9 m10 m11 mr mc me mw mh mn mu ms mt md mz mi mk mo mj ml) sz)) 0 0 (va_A (W_X5 cI m0 m1 m2 m3 m4 m5 m6 m7 m8 m9 m10 m11 mr mc me mw mh mn mu ms mt md mz mi mk mo mj ml) sz) := by
  refine Met.ofW (cc := cX5_nodesThatAre) (maxL := 4) (ret := (some .int)) (by decide) rfl ?_
  intro p e s m args below meth c s₁ B hml hv
  obtain ⟨rfl, hsz, hP, hK, hD0, hN⟩ := hv
  have hx := B.exec
  have hb := B.bytes
  have hr := B.returns
  have hts := atoms_spec (ws := wsX5_nodesThatAre) B.pre
  have hown : s.vm.findClass RX5 = some m.cls := findClass_of_methodNamed B.named
  have hlocks := B.notSynchronized
  subst hsz
  have hD := hD0.self (sz := s.heap.size)
  generalize hAe : va_A (W_X5 cI m0 m1 m2 m3 m4 m5 m6 m7 m8 m9 m10 m11 mr mc me mw mh mn mu ms mt md mz mi mk mo mj ml) s.heap.size = A at hD ⊢
  have hA : ∀ q : Nat, s.heap.size ≤ q → A q := fun q h => by rw [← hAe]; exact Or.inr h
  have hS : va_S A s.heap s.heap [] := va_S.rf
  have hl := lv_entry ([.ref m0, .int a1]) (n := 4) (Nat.le_of_ble_eq_true rfl)
  rw [lg_entry_eq]
  generalize (lg_sl ([.ref m0, .int a1]) ++ List.replicate (4 - (lg_sl ([.ref m0, .int a1])).length) Slot.unset).toArray = ls at hl ⊢
  have hl : lv_has ls 4 [(0, .ref m0), (1, .int a1)] := hl
  have he := f_X5_nodesThatAre.eq_1 mr me mw mu mk mo mj a1
  replace hp := Eq.mp (p_X5_nodesThatAre.eq_1 ..) hp
  refine lv_aload_n hx hb dX5_nodesThatAre_0 rfl (lv_at hl 0 rfl) ?_
  refine lv_iload_n hx hb dX5_nodesThatAre_1 rfl (lv_at hl 1 rfl) ?_
  obtain ⟨j1, hJ1⟩ : ∃ z : Int32, z = (if a1 < 0 then (0 : Int32) else (if 3 < a1 then (0 : Int32) else (1 : Int32))) := ⟨_, rfl⟩
  rw [← hJ1] at he
  try dsimp only at he
  have hpJ1 := hp.1
  replace hp := hp.2 _  hJ1.symm
  have kont1 : (j1 = 0 ∨ j1 = 1) → ∀ (H : Heap) (locs : List Loc), va_P D vwCl (W_X5 cI m0 m1 m2 m3 m4 m5 m6 m7 m8 m9 m10 m11 mr mc me mw mh mn mu ms mt md mz mi mk mo mj ml) H → va_D A (W_X5 cI m0 m1 m2 m3 m4 m5 m6 m7 m8 m9 m10 m11 mr mc me mw mh mn mu ms mt md mz mi mk mo mj ml) → va_S A s.heap H locs → ∀ ls : Array Slot, lv_has ls 4 [(0, .ref m0), (1, .int a1)] → W p l e (headSpec wsX5_nodesThatAre rm_X5_nodesThatAre).room s m ([.ref m0, .int a1] : List Value).toArray below meth c H locs 0 0 (MQ below (Q_X5_nodesThatAre D cI m0 m1 m2 m3 m4 m5 m6 m7 m8 m9 m10 m11 mr mc me mw mh mn mu ms mt md mz mi mk mo mj ml a1 A) ([.ref m0, .int a1] : List Value).toArray s 0 0 A) (F0 m 15 ls [.int j1, .ref m0]) := by
    intro hb1 H locs hP hD hS ls hl
    refine lv_iconst (v := 1) hx hb dX5_nodesThatAre_15 (by decide) ?_
    refine k_calli (S := Int32) (wc := (W_X5 cI m0 m1 m2 m3 m4 m5 m6 m7 m8 m9 m10 m11 mr mc me mw mh mn mu ms mt md mz mi mk mo mj ml)) (wr := ([] : va_W)) (w1 := fun u => (W_X5 cI m0 m1 m2 m3 m4 m5 m6 m7 m8 m9 m10 m11 mr mc me mw u mn mu ms mt md mz mi mk mo mj ml)) (fun u => (W_X5 cI m0 m1 m2 m3 m4 m5 m6 m7 m8 m9 m10 m11 mr mc me mw u mn mu ms mt md mz mi mk mo mj ml)) hP hK hD hN hS hA [0, 1, 2, 3, 4, 5, 6, 7, 8, 9, 10, 11] [] rfl rfl (by decide) (by decide) (by decide) [0, 1, 2, 3, 4, 5, 6, 7, 8, 9, 10, 11] (by decide) (fun _ => rfl) (fun hg => va_runV (As := [.int j1, .int 1]) (rest := []) ⟨hx, hb, hml, hown, hts⟩ (c_X5_goes l D cI m0 m1 m2 m3 m4 m5 m6 m7 m8 m9 m10 m11 mr mc me mw mh mn mu ms mt md mz mi mk mo mj ml _ j1 1) (cwV 2 hts gX5_nodesThatAre_X5_goes rfl rfl rfl (by decide +kernel) ⟨Nat.le_of_ble_eq_true rfl, Nat.le_of_ble_eq_true rfl⟩) ⟨PW.blind, va_recv hK hP (ci := 5) (q0 := 0) rfl rfl, fun U hU hW => ⟨rfl, hg U hU hW⟩⟩ rfl rfl hl.1 rfl (lv_room (Nat.le_of_ble_eq_true rfl)) dX5_nodesThatAre_16 ⟨Nat.le_of_ble_eq_true rfl, Nat.le_of_ble_eq_true rfl⟩) (fun r4 u H locs hw hP hD hS => ?_)
    obtain ⟨u4_0, rfl⟩ : ∃ z, z = u := ⟨_, rfl⟩
    obtain ⟨hw, hb4⟩ := hw
    rw [hw] at he
    try dsimp only at he
    replace hp := hp r4 u4_0 hw
    have hP : va_P D vwCl (W_X5 cI m0 m1 m2 m3 m4 m5 m6 m7 m8 m9 m10 m11 mr mc me mw u4_0 mn mu ms mt md mz mi mk mo mj ml) H := hP
    have hD : va_D A (W_X5 cI m0 m1 m2 m3 m4 m5 m6 m7 m8 m9 m10 m11 mr mc me mw u4_0 mn mu ms mt md mz mi mk mo mj ml) := hD
    refine lv_if_ne (tgt := 24) hx hb dX5_nodesThatAre_19 (by decide) (fun c5 => ?_) (fun c5 => ?_)
    · replace hp := hp.2 c5
      replace he := he.trans (if_neg c5)
      refine lv_iconst (v := 0) hx hb dX5_nodesThatAre_24 (by decide) ?_
      refine lv_istore_n (lv' := [(2, .int 0), (0, .ref m0), (1, .int a1)]) hx hb dX5_nodesThatAre_25 rfl hl (by decide) rfl (fun ls hl => ?_)
      refine lv_iconst (v := 0) hx hb dX5_nodesThatAre_26 (by decide) ?_
      refine lv_istore_n (lv' := [(3, .int 0), (2, .int 0), (0, .ref m0), (1, .int a1)]) hx hb dX5_nodesThatAre_27 rfl hl (by decide) rfl (fun ls hl => ?_)
      obtain ⟨⟨r6_v28_2, r6_v28_3⟩, hL6⟩ : ∃ z, z = f_X5_nodesThatAre_L28 mr me mw mu mk mo mj a1 15 (0 : Int32) (0 : Int32) := ⟨_, rfl⟩
      rw [← hL6] at he
      try dsimp only at he
      have hpL6 := hp.1
      replace hp := hp.2 _ _ hL6.symm
      have kont6 : ∀ (x6_v28_2 : Int32) (x6_v28_3 : Int32), (r6_v28_2, r6_v28_3) = (x6_v28_2, x6_v28_3) → ∀ (H : Heap) (locs : List Loc), va_P D vwCl (W_X5 cI m0 m1 m2 m3 m4 m5 m6 m7 m8 m9 m10 m11 mr mc me mw u4_0 mn mu ms mt md mz mi mk mo mj ml) H → va_D A (W_X5 cI m0 m1 m2 m3 m4 m5 m6 m7 m8 m9 m10 m11 mr mc me mw u4_0 mn mu ms mt md mz mi mk mo mj ml) → va_S A s.heap H locs → ∀ ls : Array Slot, lv_has ls 4 [(2, .int x6_v28_2)] → W p l e (headSpec wsX5_nodesThatAre rm_X5_nodesThatAre).room s m ([.ref m0, .int a1] : List Value).toArray below meth c H locs 0 0 (MQ below (Q_X5_nodesThatAre D cI m0 m1 m2 m3 m4 m5 m6 m7 m8 m9 m10 m11 mr mc me mw mh mn mu ms mt md mz mi mk mo mj ml a1 A) ([.ref m0, .int a1] : List Value).toArray s 0 0 A) (F0 m 57 ls []) := by
        intro x6_v28_2 x6_v28_3 hxe H locs hP hD hS ls hl
        simp only [Prod.mk.injEq] at hxe
        obtain ⟨rfl, rfl⟩ := hxe
        refine lv_iload_n hx hb dX5_nodesThatAre_57 rfl (lv_at hl 0 rfl) ?_
        exact W.iret (v := r6_v28_2) hx hb hr (fun t ht hW => ⟨⟨r6_v28_2, u4_0, rfl, he, by rw [ht]; exact hP, va_K.moved hW.alike hK, hD⟩, hS.F ht⟩) hS.2.2 dX5_nodesThatAre_58
      have loop6 : ∀ (n : Nat) (v28_2 : Int32) (v28_3 : Int32), p_X5_nodesThatAre_L28 mr me mw mu mk mo mj a1 n v28_2 v28_3 → (r6_v28_2, r6_v28_3) = f_X5_nodesThatAre_L28 mr me mw mu mk mo mj a1 n v28_2 v28_3 → ∀ (H : Heap) (locs : List Loc), va_P D vwCl (W_X5 cI m0 m1 m2 m3 m4 m5 m6 m7 m8 m9 m10 m11 mr mc me mw u4_0 mn mu ms mt md mz mi mk mo mj ml) H → va_D A (W_X5 cI m0 m1 m2 m3 m4 m5 m6 m7 m8 m9 m10 m11 mr mc me mw u4_0 mn mu ms mt md mz mi mk mo mj ml) → va_S A s.heap H locs → ∀ ls : Array Slot, lv_has ls 4 [(3, .int v28_3), (2, .int v28_2), (0, .ref m0), (1, .int a1)] → W p l e (headSpec wsX5_nodesThatAre rm_X5_nodesThatAre).room s m ([.ref m0, .int a1] : List Value).toArray below meth c H locs 0 0 (MQ below (Q_X5_nodesThatAre D cI m0 m1 m2 m3 m4 m5 m6 m7 m8 m9 m10 m11 mr mc me mw mh mn mu ms mt md mz mi mk mo mj ml a1 A) ([.ref m0, .int a1] : List Value).toArray s 0 0 A) (F0 m 28 ls []) := by
        intro n
        induction n with
        | zero => exact fun _ _ hp => hp.elim
        | succ n ih =>
          intro v28_2 v28_3 hp he H locs hP hD hS ls hl
          replace hp := Eq.mp (p_X5_nodesThatAre_L28.eq_2 ..) hp
          replace he := he.trans (f_X5_nodesThatAre_L28.eq_2 ..)
          refine lv_iload_n hx hb dX5_nodesThatAre_28 rfl (lv_at hl 0 rfl) ?_
          refine lv_bipush (v := 14) hx hb dX5_nodesThatAre_29 (by decide) ?_
          refine lv_icmp_ge (tgt := 57) hx hb dX5_nodesThatAre_31 (by decide) (fun c7 => ?_) (fun c7 => ?_)
          · replace hp := hp.1 c7
            replace he := he.trans (if_pos c7)
            exact kont6 _ _ he _ _ hP hD hS _ (lv_sub hl [1] rfl)
          · replace hp := hp.2 c7
            replace he := he.trans (if_neg c7)
            refine lv_iload_n hx hb dX5_nodesThatAre_34 rfl (lv_at hl 1 rfl) ?_
            refine lv_aload_n hx hb dX5_nodesThatAre_35 rfl (lv_at hl 2 rfl) ?_
            refine lv_iload_n hx hb dX5_nodesThatAre_36 rfl (lv_at hl 0 rfl) ?_
            have hq8 := hp.1
            replace hp := hp.2
            refine k_calli (S := Unit) (wc := (W_X5 cI m0 m1 m2 m3 m4 m5 m6 m7 m8 m9 m10 m11 mr mc me mw u4_0 mn mu ms mt md mz mi mk mo mj ml)) (wr := ([] : va_W)) (w1 := fun u => (W_X5 cI m0 m1 m2 m3 m4 m5 m6 m7 m8 m9 m10 m11 mr mc me mw u4_0 mn mu ms mt md mz mi mk mo mj ml)) (fun u => (W_X5 cI m0 m1 m2 m3 m4 m5 m6 m7 m8 m9 m10 m11 mr mc me mw u4_0 mn mu ms mt md mz mi mk mo mj ml)) hP hK hD hN hS hA [0, 1, 2, 3, 4, 5, 6, 7, 8, 9, 10, 11] [] rfl rfl (by decide) (by decide) (by decide) [0, 1, 2, 3, 4, 5, 6, 7, 8, 9, 10, 11] (by decide) (fun _ => rfl) (fun hg => va_runV (As := [.int v28_3]) (rest := [.int v28_2]) ⟨hx, hb, hml, hown, hts⟩ (c_X5_stateOf l D cI m0 m1 m2 m3 m4 m5 m6 m7 m8 m9 m10 m11 mr mc me mw u4_0 mn mu ms mt md mz mi mk mo mj ml _ v28_3 hq8) (cwV 1 hts gX5_nodesThatAre_X5_stateOf rfl rfl rfl (by decide +kernel) ⟨Nat.le_of_ble_eq_true rfl, Nat.le_of_ble_eq_true rfl⟩) ⟨PW.blind, va_recv hK hP (ci := 5) (q0 := 0) rfl rfl, fun U hU hW => ⟨rfl, hg U hU hW⟩⟩ rfl rfl hl.1 rfl (lv_room (Nat.le_of_ble_eq_true rfl)) dX5_nodesThatAre_37 ⟨Nat.le_of_ble_eq_true rfl, Nat.le_of_ble_eq_true rfl⟩) (fun r8 u H locs hw hP hD hS => ?_)
            subst hw
            refine lv_iload_n hx hb dX5_nodesThatAre_40 rfl (lv_at hl 3 rfl) ?_
            obtain ⟨j9, hJ9⟩ : ∃ z : Int32, z = (if (f_X5_stateOf mr me mw mu mk mo mj v28_3) = a1 then (1 : Int32) else (0 : Int32)) := ⟨_, rfl⟩
            rw [← hJ9] at he
            try dsimp only at he
            have hpJ9 := hp.1
            replace hp := hp.2 _  hJ9.symm
            have kont9 : (j9 = 0 ∨ j9 = 1) → ∀ (H : Heap) (locs : List Loc), va_P D vwCl (W_X5 cI m0 m1 m2 m3 m4 m5 m6 m7 m8 m9 m10 m11 mr mc me mw u4_0 mn mu ms mt md mz mi mk mo mj ml) H → va_D A (W_X5 cI m0 m1 m2 m3 m4 m5 m6 m7 m8 m9 m10 m11 mr mc me mw u4_0 mn mu ms mt md mz mi mk mo mj ml) → va_S A s.heap H locs → ∀ ls : Array Slot, lv_has ls 4 [(3, .int v28_3), (0, .ref m0), (1, .int a1)] → W p l e (headSpec wsX5_nodesThatAre rm_X5_nodesThatAre).room s m ([.ref m0, .int a1] : List Value).toArray below meth c H locs 0 0 (MQ below (Q_X5_nodesThatAre D cI m0 m1 m2 m3 m4 m5 m6 m7 m8 m9 m10 m11 mr mc me mw mh mn mu ms mt md mz mi mk mo mj ml a1 A) ([.ref m0, .int a1] : List Value).toArray s 0 0 A) (F0 m 49 ls [.int j9, .int v28_2]) := by
              intro hb9 H locs hP hD hS ls hl
              refine lv_iadd hx hb dX5_nodesThatAre_49 ?_
              refine lv_istore_n (lv' := [(2, .int (v28_2 + j9)), (3, .int v28_3), (0, .ref m0), (1, .int a1)]) hx hb dX5_nodesThatAre_50 rfl hl (by decide) rfl (fun ls hl => ?_)
              refine lv_iinc (v := (v28_3 + 1)) (lv' := [(3, .int (v28_3 + 1)), (2, .int (v28_2 + j9)), (0, .ref m0), (1, .int a1)]) hx hb dX5_nodesThatAre_51 hl (k := 1) rfl rfl (by decide) rfl (fun ls hl => ?_)
              refine lv_goto (tgt := 28) hx hb dX5_nodesThatAre_54 (by decide) ?_
              exact ih _ _ hp he _ _ hP hD hS _ (lv_sub hl [0, 1, 2, 3] rfl)
            replace he := hJ9
            replace hp := hpJ9
            refine lv_icmp_ne (tgt := 48) hx hb dX5_nodesThatAre_41 (by decide) (fun c10 => ?_) (fun c10 => ?_)
            · replace hp := hp.2 c10
              replace he := he.trans (if_neg c10)
              refine lv_iconst (v := 0) hx hb dX5_nodesThatAre_48 (by decide) ?_
              subst he
              exact kont9 (Or.inl rfl) _ _ hP hD hS _ (lv_sub hl [0, 2, 3] rfl)
            · replace hp := hp.1 c10
              replace he := he.trans (if_pos c10)
              refine lv_iconst (v := 1) hx hb dX5_nodesThatAre_44 (by decide) ?_
              refine lv_goto (tgt := 49) hx hb dX5_nodesThatAre_45 (by decide) ?_
              subst he
              exact kont9 (Or.inr rfl) _ _ hP hD hS _ (lv_sub hl [0, 2, 3] rfl)
      exact loop6 15 (0 : Int32) (0 : Int32) hpL6 hL6 _ _ hP hD hS _ (lv_sub hl [0, 1, 2, 3] rfl)
    · replace hp := hp.1 c5
      replace he := he.trans (if_pos c5)
      refine lv_iconst (v := 0) hx hb dX5_nodesThatAre_22 (by decide) ?_
      exact W.iret (v := 0) hx hb hr (fun t ht hW => ⟨⟨0, u4_0, rfl, he, by rw [ht]; exact hP, va_K.moved hW.alike hK, hD⟩, hS.F ht⟩) hS.2.2 dX5_nodesThatAre_23
  replace he := hJ1
  replace hp := hpJ1
  refine lv_if_lt (tgt := 14) hx hb dX5_nodesThatAre_2 (by decide) (fun c2 => ?_) (fun c2 => ?_)
  · replace hp := hp.1 c2
    replace he := he.trans (if_pos c2)
    refine lv_iconst (v := 0) hx hb dX5_nodesThatAre_14 (by decide) ?_
    subst he
    exact kont1 (Or.inl rfl) _ _ hP hD hS _ (lv_sub hl [0, 1] rfl)
  · replace hp := hp.2 c2
    replace he := he.trans (if_neg c2)
    refine lv_iload_n hx hb dX5_nodesThatAre_5 rfl (lv_at hl 1 rfl) ?_
    refine lv_iconst (v := 3) hx hb dX5_nodesThatAre_6 (by decide) ?_
    refine lv_icmp_gt (tgt := 14) hx hb dX5_nodesThatAre_7 (by decide) (fun c3 => ?_) (fun c3 => ?_)
    · replace hp := hp.1 c3
      replace he := he.trans (if_pos c3)
      refine lv_iconst (v := 0) hx hb dX5_nodesThatAre_14 (by decide) ?_
      subst he
      exact kont1 (Or.inl rfl) _ _ hP hD hS _ (lv_sub hl [0, 1] rfl)
    · replace hp := hp.2 c3
      replace he := he.trans (if_neg c3)
      refine lv_iconst (v := 1) hx hb dX5_nodesThatAre_10 (by decide) ?_
      refine lv_goto (tgt := 15) hx hb dX5_nodesThatAre_11 (by decide) ?_
      subst he
      exact kont1 (Or.inr rfl) _ _ hP hD hS _ (lv_sub hl [0, 1] rfl)
abbrev rm_X5_raises : Room := { frames := 1, cells := 0, slots := 0, locals := 24 }
abbrev Q_X5_raises (D : va_G) (cI : ClassId) (m0 m1 m2 m3 m4 m5 m6 m7 m8 m9 m10 m11 : Nat) (mr : Int32) (mc : Int32) (me : Int32) (mw : Int32) (mh : Int32) (mn : AA) (mu : AA) (ms : AA) (mt : AA) (md : AA) (mz : AA) (mi : AA) (mk : AA) (mo : AA) (mj : AA) (ml : AA) (a1 a2 : Int32) (A : Nat → Prop) : Array Value → State → Outcome → State → Prop := va_Qi (S := Int32) (fun r u => f_X5_raises me mw mk mo mj a1 a2 = (r, u)) (fun u t => QW D [(cI, .int)] A (W_X5 cI m0 m1 m2 m3 m4 m5 m6 m7 m8 m9 m10 m11 mr mc me mw u mn mu ms mt md mz mi mk mo mj ml) t) A
set_option maxHeartbeats 4000000 in
set_option maxRecDepth 100000 in
theorem c_X5_raises (l : Launch)  (D : va_G) (cI : ClassId) (m0 m1 m2 m3 m4 m5 m6 m7 m8 m9 m10 m11 : Nat) (mr : Int32) (mc : Int32) (me : Int32) (mw : Int32) (mh : Int32) (mn : AA) (mu : AA) (ms : AA) (mt : AA) (md : AA) (mz : AA) (mi : AA) (mk : AA) (mo : AA) (mj : AA) (ml : AA) (sz : Nat) (a1 a2 : Int32) (hp : p_X5_raises me mw mk mo mj a1 a2) : Met l yX5_raises wsX5_raises rm_X5_raises (va_Pc [.ref m0, .int a1, .int a2] (PW D [(cI, .int)] sz (W_X5 cI m0 m1 m2 m3 m4 m5 m6 m7 m8 m9 m10 m11 mr mc me mw mh mn mu ms mt md mz mi mk mo mj ml))) (Q_X5_raises D cI m0 m1 m2 m3 m4 m5 m6 m7 m8 m9 m10 m11 mr mc me mw mh mn mu ms mt md mz mi mk mo mj ml a1 a2 (va_A (W_X5 cI m0 m1 m2 m3 m4 m5 m6 m7 m8 m9 m10 m11 mr mc me mw mh mn mu ms mt md mz mi mk mo mj ml) sz)) 0 0 (va_A (W_X5 cI m0 m1 m2 m3 m4 m5 m6 m7 m8 m9 m10 m11 mr mc me mw mh mn mu ms mt md mz mi mk mo mj ml) sz) := by
  refine Met.ofW (cc := cX5_raises) (maxL := 3) (ret := (some .int)) (by decide) rfl ?_
  intro p e s m args below meth c s₁ B hml hv
  obtain ⟨rfl, hsz, hP, hK, hD0, hN⟩ := hv
  have hx := B.exec
  have hb := B.bytes
  have hr := B.returns
  have hts := atoms_spec (ws := wsX5_raises) B.pre
  have hown : s.vm.findClass RX5 = some m.cls := findClass_of_methodNamed B.named
  have hlocks := B.notSynchronized
  subst hsz
  have hD := hD0.self (sz := s.heap.size)
  generalize hAe : va_A (W_X5 cI m0 m1 m2 m3 m4 m5 m6 m7 m8 m9 m10 m11 mr mc me mw mh mn mu ms mt md mz mi mk mo mj ml) s.heap.size = A at hD ⊢
  have hA : ∀ q : Nat, s.heap.size ≤ q → A q := fun q h => by rw [← hAe]; exact Or.inr h
  have hS : va_S A s.heap s.heap [] := va_S.rf
  have hl := lv_entry ([.ref m0, .int a1, .int a2]) (n := 3) (Nat.le_of_ble_eq_true rfl)
  rw [lg_entry_eq]
  generalize (lg_sl ([.ref m0, .int a1, .int a2]) ++ List.replicate (3 - (lg_sl ([.ref m0, .int a1, .int a2])).length) Slot.unset).toArray = ls at hl ⊢
  have hl : lv_has ls 3 [(0, .ref m0), (1, .int a1), (2, .int a2)] := hl
  have he := f_X5_raises.eq_1 me mw mk mo mj a1 a2
  replace hp := Eq.mp (p_X5_raises.eq_1 ..) hp
  refine lv_aload_n hx hb dX5_raises_0 rfl (lv_at hl 0 rfl) ?_
  refine lv_iload_n hx hb dX5_raises_1 rfl (lv_at hl 1 rfl) ?_
  refine k_calli (S := Unit) (wc := ([] : va_W)) (wr := (W_X5 cI m0 m1 m2 m3 m4 m5 m6 m7 m8 m9 m10 m11 mr mc me mw mh mn mu ms mt md mz mi mk mo mj ml)) (w1 := fun u => ([] : va_W)) (fun u => (W_X5 cI m0 m1 m2 m3 m4 m5 m6 m7 m8 m9 m10 m11 mr mc me mw mh mn mu ms mt md mz mi mk mo mj ml)) hP hK hD hN hS hA [] [0, 1, 2, 3, 4, 5, 6, 7, 8, 9, 10, 11] rfl rfl (by decide) (by decide) (by decide) [0, 1, 2, 3, 4, 5, 6, 7, 8, 9, 10, 11] (by decide) (fun _ => rfl) (fun hg => va_runS (As := [.int a1]) (rest := [.ref m0]) ⟨hx, hb, hml, hown, hts⟩ (c_X5_isNode l D cI _ a1) (va_cwS 1 hts gX5_raises_X5_isNode rfl rfl rfl (by decide +kernel) ⟨Nat.le_of_ble_eq_true rfl, Nat.le_of_ble_eq_true rfl⟩) ⟨PW.blind, fun U hU hW => ⟨rfl, hg U hU hW⟩⟩ rfl rfl hl.1 rfl (lv_room (Nat.le_of_ble_eq_true rfl)) dX5_raises_2 ⟨Nat.le_of_ble_eq_true rfl, Nat.le_of_ble_eq_true rfl⟩) (fun r1 u H locs hw hP hD hS => ?_)
  obtain ⟨hw, hb1⟩ := hw
  subst hw
  refine lv_iload_n hx hb dX5_raises_5 rfl (lv_at hl 2 rfl) ?_
  refine lv_iconst (v := 1) hx hb dX5_raises_6 (by decide) ?_
  obtain ⟨j2, hJ2⟩ : ∃ z : Int32, z = (if a2 < 1 then (0 : Int32) else (if 1000 < a2 then (0 : Int32) else (1 : Int32))) := ⟨_, rfl⟩
  rw [← hJ2] at he
  try dsimp only at he
  have hpJ2 := hp.1
  replace hp := hp.2 _  hJ2.symm
  have kont2 : (j2 = 0 ∨ j2 = 1) → ∀ (H : Heap) (locs : List Loc), va_P D vwCl (W_X5 cI m0 m1 m2 m3 m4 m5 m6 m7 m8 m9 m10 m11 mr mc me mw mh mn mu ms mt md mz mi mk mo mj ml) H → va_D A (W_X5 cI m0 m1 m2 m3 m4 m5 m6 m7 m8 m9 m10 m11 mr mc me mw mh mn mu ms mt md mz mi mk mo mj ml) → va_S A s.heap H locs → ∀ ls : Array Slot, lv_has ls 3 [(0, .ref m0), (1, .int a1), (2, .int a2)] → W p l e (headSpec wsX5_raises rm_X5_raises).room s m ([.ref m0, .int a1, .int a2] : List Value).toArray below meth c H locs 0 0 (MQ below (Q_X5_raises D cI m0 m1 m2 m3 m4 m5 m6 m7 m8 m9 m10 m11 mr mc me mw mh mn mu ms mt md mz mi mk mo mj ml a1 a2 A) ([.ref m0, .int a1, .int a2] : List Value).toArray s 0 0 A) (F0 m 22 ls [.int j2, .int (f_X5_isNode a1), .ref m0]) := by
    intro hb2 H locs hP hD hS ls hl
    refine k_calli (S := Int32) (wc := (W_X5 cI m0 m1 m2 m3 m4 m5 m6 m7 m8 m9 m10 m11 mr mc me mw mh mn mu ms mt md mz mi mk mo mj ml)) (wr := ([] : va_W)) (w1 := fun u => (W_X5 cI m0 m1 m2 m3 m4 m5 m6 m7 m8 m9 m10 m11 mr mc me mw u mn mu ms mt md mz mi mk mo mj ml)) (fun u => (W_X5 cI m0 m1 m2 m3 m4 m5 m6 m7 m8 m9 m10 m11 mr mc me mw u mn mu ms mt md mz mi mk mo mj ml)) hP hK hD hN hS hA [0, 1, 2, 3, 4, 5, 6, 7, 8, 9, 10, 11] [] rfl rfl (by decide) (by decide) (by decide) [0, 1, 2, 3, 4, 5, 6, 7, 8, 9, 10, 11] (by decide) (fun _ => rfl) (fun hg => va_runV (As := [.int (f_X5_isNode a1), .int j2]) (rest := []) ⟨hx, hb, hml, hown, hts⟩ (c_X5_goes l D cI m0 m1 m2 m3 m4 m5 m6 m7 m8 m9 m10 m11 mr mc me mw mh mn mu ms mt md mz mi mk mo mj ml _ (f_X5_isNode a1) j2) (cwV 2 hts gX5_raises_X5_goes rfl rfl rfl (by decide +kernel) ⟨Nat.le_of_ble_eq_true rfl, Nat.le_of_ble_eq_true rfl⟩) ⟨PW.blind, va_recv hK hP (ci := 5) (q0 := 0) rfl rfl, fun U hU hW => ⟨rfl, hg U hU hW⟩⟩ rfl rfl hl.1 rfl (lv_room (Nat.le_of_ble_eq_true rfl)) dX5_raises_22 ⟨Nat.le_of_ble_eq_true rfl, Nat.le_of_ble_eq_true rfl⟩) (fun r5 u H locs hw hP hD hS => ?_)
    obtain ⟨u5_0, rfl⟩ : ∃ z, z = u := ⟨_, rfl⟩
    obtain ⟨hw, hb5⟩ := hw
    rw [hw] at he
    try dsimp only at he
    replace hp := hp r5 u5_0 hw
    have hP : va_P D vwCl (W_X5 cI m0 m1 m2 m3 m4 m5 m6 m7 m8 m9 m10 m11 mr mc me mw u5_0 mn mu ms mt md mz mi mk mo mj ml) H := hP
    have hD : va_D A (W_X5 cI m0 m1 m2 m3 m4 m5 m6 m7 m8 m9 m10 m11 mr mc me mw u5_0 mn mu ms mt md mz mi mk mo mj ml) := hD
    obtain ⟨j6, hJ6⟩ : ∃ z : Int32, z = (if r5 = 0 then (0 : Int32) else (f_X5_raisesOf me mw mk mo mj a1 a2)) := ⟨_, rfl⟩
    rw [← hJ6] at he
    try dsimp only at he
    have hpJ6 := hp.1
    replace hp := hp.2 _  hJ6.symm
    have kont6 : ∀ (H : Heap) (locs : List Loc), va_P D vwCl (W_X5 cI m0 m1 m2 m3 m4 m5 m6 m7 m8 m9 m10 m11 mr mc me mw u5_0 mn mu ms mt md mz mi mk mo mj ml) H → va_D A (W_X5 cI m0 m1 m2 m3 m4 m5 m6 m7 m8 m9 m10 m11 mr mc me mw u5_0 mn mu ms mt md mz mi mk mo mj ml) → va_S A s.heap H locs → ∀ ls : Array Slot, lv_has ls 3 [] → W p l e (headSpec wsX5_raises rm_X5_raises).room s m ([.ref m0, .int a1, .int a2] : List Value).toArray below meth c H locs 0 0 (MQ below (Q_X5_raises D cI m0 m1 m2 m3 m4 m5 m6 m7 m8 m9 m10 m11 mr mc me mw mh mn mu ms mt md mz mi mk mo mj ml a1 a2 A) ([.ref m0, .int a1, .int a2] : List Value).toArray s 0 0 A) (F0 m 38 ls [.int j6]) := by
      intro H locs hP hD hS ls hl
      exact W.iret (v := j6) hx hb hr (fun t ht hW => ⟨⟨j6, u5_0, rfl, he, by rw [ht]; exact hP, va_K.moved hW.alike hK, hD⟩, hS.F ht⟩) hS.2.2 dX5_raises_38
    replace he := hJ6
    replace hp := hpJ6
    refine lv_if_eq (tgt := 37) hx hb dX5_raises_25 (by decide) (fun c7 => ?_) (fun c7 => ?_)
    · replace hp := hp.1 c7
      replace he := he.trans (if_pos c7)
      refine lv_iconst (v := 0) hx hb dX5_raises_37 (by decide) ?_
      subst he
      exact kont6 _ _ hP hD hS _ (lv_sub hl [] rfl)
    · replace hp := hp.2 c7
      replace he := he.trans (if_neg c7)
      refine lv_aload_n hx hb dX5_raises_28 rfl (lv_at hl 0 rfl) ?_
      refine lv_iload_n hx hb dX5_raises_29 rfl (lv_at hl 1 rfl) ?_
      refine lv_iload_n hx hb dX5_raises_30 rfl (lv_at hl 2 rfl) ?_
      have hq8 := hp.1
      replace hp := hp.2
      refine k_calli (S := Unit) (wc := (W_X5 cI m0 m1 m2 m3 m4 m5 m6 m7 m8 m9 m10 m11 mr mc me mw u5_0 mn mu ms mt md mz mi mk mo mj ml)) (wr := ([] : va_W)) (w1 := fun u => (W_X5 cI m0 m1 m2 m3 m4 m5 m6 m7 m8 m9 m10 m11 mr mc me mw u5_0 mn mu ms mt md mz mi mk mo mj ml)) (fun u => (W_X5 cI m0 m1 m2 m3 m4 m5 m6 m7 m8 m9 m10 m11 mr mc me mw u5_0 mn mu ms mt md mz mi mk mo mj ml)) hP hK hD hN hS hA [0, 1, 2, 3, 4, 5, 6, 7, 8, 9, 10, 11] [] rfl rfl (by decide) (by decide) (by decide) [0, 1, 2, 3, 4, 5, 6, 7, 8, 9, 10, 11] (by decide) (fun _ => rfl) (fun hg => va_runV (As := [.int a1, .int a2]) (rest := []) ⟨hx, hb, hml, hown, hts⟩ (c_X5_raisesOf l D cI m0 m1 m2 m3 m4 m5 m6 m7 m8 m9 m10 m11 mr mc me mw u5_0 mn mu ms mt md mz mi mk mo mj ml _ a1 a2 hq8) (cwV 2 hts gX5_raises_X5_raisesOf rfl rfl rfl (by decide +kernel) ⟨Nat.le_of_ble_eq_true rfl, Nat.le_of_ble_eq_true rfl⟩) ⟨PW.blind, va_recv hK hP (ci := 5) (q0 := 0) rfl rfl, fun U hU hW => ⟨rfl, hg U hU hW⟩⟩ rfl rfl hl.1 rfl (lv_room (Nat.le_of_ble_eq_true rfl)) dX5_raises_31 ⟨Nat.le_of_ble_eq_true rfl, Nat.le_of_ble_eq_true rfl⟩) (fun r8 u H locs hw hP hD hS => ?_)
      subst hw
      refine lv_goto (tgt := 38) hx hb dX5_raises_34 (by decide) ?_
      subst he
      exact kont6 _ _ hP hD hS _ (lv_sub hl [] rfl)
  replace he := hJ2
  replace hp := hpJ2
  refine lv_icmp_lt (tgt := 21) hx hb dX5_raises_7 (by decide) (fun c3 => ?_) (fun c3 => ?_)
  · replace hp := hp.1 c3
    replace he := he.trans (if_pos c3)
    refine lv_iconst (v := 0) hx hb dX5_raises_21 (by decide) ?_
    subst he
    exact kont2 (Or.inl rfl) _ _ hP hD hS _ (lv_sub hl [0, 1, 2] rfl)
  · replace hp := hp.2 c3
    replace he := he.trans (if_neg c3)
    refine lv_iload_n hx hb dX5_raises_10 rfl (lv_at hl 2 rfl) ?_
    refine lv_sipush (v := 1000) hx hb dX5_raises_11 (by decide) ?_
    refine lv_icmp_gt (tgt := 21) hx hb dX5_raises_14 (by decide) (fun c4 => ?_) (fun c4 => ?_)
    · replace hp := hp.1 c4
      replace he := he.trans (if_pos c4)
      refine lv_iconst (v := 0) hx hb dX5_raises_21 (by decide) ?_
      subst he
      exact kont2 (Or.inl rfl) _ _ hP hD hS _ (lv_sub hl [0, 1, 2] rfl)
    · replace hp := hp.2 c4
      replace he := he.trans (if_neg c4)
      refine lv_iconst (v := 1) hx hb dX5_raises_17 (by decide) ?_
      refine lv_goto (tgt := 22) hx hb dX5_raises_18 (by decide) ?_
      subst he
      exact kont2 (Or.inr rfl) _ _ hP hD hS _ (lv_sub hl [0, 1, 2] rfl)
abbrev rm_X5_isEvent : Room := { frames := 1, cells := 0, slots := 0, locals := 22 }
abbrev Q_X5_isEvent (D : va_G) (cI : ClassId) (m0 m1 m2 m3 m4 m5 m6 m7 m8 m9 m10 m11 : Nat) (mr : Int32) (mc : Int32) (me : Int32) (mw : Int32) (mh : Int32) (mn : AA) (mu : AA) (ms : AA) (mt : AA) (md : AA) (mz : AA) (mi : AA) (mk : AA) (mo : AA) (mj : AA) (ml : AA) (a1 : Int32) (A : Nat → Prop) : Array Value → State → Outcome → State → Prop := va_Qi (S := Int32) (fun r u => f_X5_isEvent me a1 = (r, u) ∧ (r = 0 ∨ r = 1)) (fun u t => QW D [(cI, .int)] A (W_X5 cI m0 m1 m2 m3 m4 m5 m6 m7 m8 m9 m10 m11 mr mc me mw u mn mu ms mt md mz mi mk mo mj ml) t) A
set_option maxHeartbeats 4000000 in
set_option maxRecDepth 100000 in
theorem c_X5_isEvent (l : Launch)  (D : va_G) (cI : ClassId) (m0 m1 m2 m3 m4 m5 m6 m7 m8 m9 m10 m11 : Nat) (mr : Int32) (mc : Int32) (me : Int32) (mw : Int32) (mh : Int32) (mn : AA) (mu : AA) (ms : AA) (mt : AA) (md : AA) (mz : AA) (mi : AA) (mk : AA) (mo : AA) (mj : AA) (ml : AA) (sz : Nat) (a1 : Int32) : Met l yX5_isEvent wsX5_isEvent rm_X5_isEvent (va_Pc [.ref m0, .int a1] (PW D [(cI, .int)] sz (W_X5 cI m0 m1 m2 m3 m4 m5 m6 m7 m8 m9 m10 m11 mr mc me mw mh mn mu ms mt md mz mi mk mo mj ml))) (Q_X5_isEvent D cI m0 m1 m2 m3 m4 m5 m6 m7 m8 m9 m10 m11 mr mc me mw mh mn mu ms mt md mz mi mk mo mj ml a1 (va_A (W_X5 cI m0 m1 m2 m3 m4 m5 m6 m7 m8 m9 m10 m11 mr mc me mw mh mn mu ms mt md mz mi mk mo mj ml) sz)) 0 0 (va_A (W_X5 cI m0 m1 m2 m3 m4 m5 m6 m7 m8 m9 m10 m11 mr mc me mw mh mn mu ms mt md mz mi mk mo mj ml) sz) := by
  refine Met.ofW (cc := cX5_isEvent) (maxL := 2) (ret := (some .boolean)) (by decide) rfl ?_
  intro p e s m args below meth c s₁ B hml hv
  obtain ⟨rfl, hsz, hP, hK, hD0, hN⟩ := hv
  have hx := B.exec
  have hb := B.bytes
  have hr := B.returns
  have hts := atoms_spec (ws := wsX5_isEvent) B.pre
  have hown : s.vm.findClass RX5 = some m.cls := findClass_of_methodNamed B.named
  have hlocks := B.notSynchronized
  subst hsz
  have hD := hD0.self (sz := s.heap.size)
  generalize hAe : va_A (W_X5 cI m0 m1 m2 m3 m4 m5 m6 m7 m8 m9 m10 m11 mr mc me mw mh mn mu ms mt md mz mi mk mo mj ml) s.heap.size = A at hD ⊢
  have hA : ∀ q : Nat, s.heap.size ≤ q → A q := fun q h => by rw [← hAe]; exact Or.inr h
  have hS : va_S A s.heap s.heap [] := va_S.rf
  have hl := lv_entry ([.ref m0, .int a1]) (n := 2) (Nat.le_of_ble_eq_true rfl)
  rw [lg_entry_eq]
  generalize (lg_sl ([.ref m0, .int a1]) ++ List.replicate (2 - (lg_sl ([.ref m0, .int a1])).length) Slot.unset).toArray = ls at hl ⊢
  have hl : lv_has ls 2 [(0, .ref m0), (1, .int a1)] := hl
  have he := f_X5_isEvent.eq_1 me a1
  refine lv_aload_n hx hb dX5_isEvent_0 rfl (lv_at hl 0 rfl) ?_
  refine lv_iload_n hx hb dX5_isEvent_1 rfl (lv_at hl 1 rfl) ?_
  obtain ⟨j1, hJ1⟩ : ∃ z : Int32, z = (if a1 < 0 then (0 : Int32) else (if me ≤ a1 then (0 : Int32) else (1 : Int32))) := ⟨_, rfl⟩
  rw [← hJ1] at he
  try dsimp only at he
  have kont1 : (j1 = 0 ∨ j1 = 1) → ∀ (H : Heap) (locs : List Loc), va_P D vwCl (W_X5 cI m0 m1 m2 m3 m4 m5 m6 m7 m8 m9 m10 m11 mr mc me mw mh mn mu ms mt md mz mi mk mo mj ml) H → va_D A (W_X5 cI m0 m1 m2 m3 m4 m5 m6 m7 m8 m9 m10 m11 mr mc me mw mh mn mu ms mt md mz mi mk mo mj ml) → va_S A s.heap H locs → ∀ ls : Array Slot, lv_has ls 2 [] → W p l e (headSpec wsX5_isEvent rm_X5_isEvent).room s m ([.ref m0, .int a1] : List Value).toArray below meth c H locs 0 0 (MQ below (Q_X5_isEvent D cI m0 m1 m2 m3 m4 m5 m6 m7 m8 m9 m10 m11 mr mc me mw mh mn mu ms mt md mz mi mk mo mj ml a1 A) ([.ref m0, .int a1] : List Value).toArray s 0 0 A) (F0 m 18 ls [.int j1, .ref m0]) := by
    intro hb1 H locs hP hD hS ls hl
    refine lv_iconst (v := 1) hx hb dX5_isEvent_18 (by decide) ?_
    refine k_calli (S := Int32) (wc := (W_X5 cI m0 m1 m2 m3 m4 m5 m6 m7 m8 m9 m10 m11 mr mc me mw mh mn mu ms mt md mz mi mk mo mj ml)) (wr := ([] : va_W)) (w1 := fun u => (W_X5 cI m0 m1 m2 m3 m4 m5 m6 m7 m8 m9 m10 m11 mr mc me mw u mn mu ms mt md mz mi mk mo mj ml)) (fun u => (W_X5 cI m0 m1 m2 m3 m4 m5 m6 m7 m8 m9 m10 m11 mr mc me mw u mn mu ms mt md mz mi mk mo mj ml)) hP hK hD hN hS hA [0, 1, 2, 3, 4, 5, 6, 7, 8, 9, 10, 11] [] rfl rfl (by decide) (by decide) (by decide) [0, 1, 2, 3, 4, 5, 6, 7, 8, 9, 10, 11] (by decide) (fun _ => rfl) (fun hg => va_runV (As := [.int j1, .int 1]) (rest := []) ⟨hx, hb, hml, hown, hts⟩ (c_X5_goes l D cI m0 m1 m2 m3 m4 m5 m6 m7 m8 m9 m10 m11 mr mc me mw mh mn mu ms mt md mz mi mk mo mj ml _ j1 1) (cwV 2 hts gX5_isEvent_X5_goes rfl rfl rfl (by decide +kernel) ⟨Nat.le_of_ble_eq_true rfl, Nat.le_of_ble_eq_true rfl⟩) ⟨PW.blind, va_recv hK hP (ci := 5) (q0 := 0) rfl rfl, fun U hU hW => ⟨rfl, hg U hU hW⟩⟩ rfl rfl hl.1 rfl (lv_room (Nat.le_of_ble_eq_true rfl)) dX5_isEvent_19 ⟨Nat.le_of_ble_eq_true rfl, Nat.le_of_ble_eq_true rfl⟩) (fun r4 u H locs hw hP hD hS => ?_)
    obtain ⟨u4_0, rfl⟩ : ∃ z, z = u := ⟨_, rfl⟩
    obtain ⟨hw, hb4⟩ := hw
    rw [hw] at he
    try dsimp only at he
    have hP : va_P D vwCl (W_X5 cI m0 m1 m2 m3 m4 m5 m6 m7 m8 m9 m10 m11 mr mc me mw u4_0 mn mu ms mt md mz mi mk mo mj ml) H := hP
    have hD : va_D A (W_X5 cI m0 m1 m2 m3 m4 m5 m6 m7 m8 m9 m10 m11 mr mc me mw u4_0 mn mu ms mt md mz mi mk mo mj ml) := hD
    exact W.zret (ty := .boolean) (v := r4) hx hb hr (by rcases hb4 with h9 | h9 <;> rw [h9] <;> rfl) (fun t ht hW => ⟨⟨r4, u4_0, rfl, ⟨he, hb4⟩, by rw [ht]; exact hP, va_K.moved hW.alike hK, hD⟩, hS.F ht⟩) hS.2.2 dX5_isEvent_22
  replace he := hJ1
  refine lv_if_lt (tgt := 17) hx hb dX5_isEvent_2 (by decide) (fun c2 => ?_) (fun c2 => ?_)
  · replace he := he.trans (if_pos c2)
    refine lv_iconst (v := 0) hx hb dX5_isEvent_17 (by decide) ?_
    subst he
    exact kont1 (Or.inl rfl) _ _ hP hD hS _ (lv_sub hl [] rfl)
  · replace he := he.trans (if_neg c2)
    refine lv_iload_n hx hb dX5_isEvent_5 rfl (lv_at hl 1 rfl) ?_
    refine lv_aload_n hx hb dX5_isEvent_6 rfl (lv_at hl 0 rfl) ?_
    refine va_get (D := D) (ci := 5) (v := .int me) (C := RX5) (T := TX5) (N := 16) hx hb hts (by decide +kernel) hown hK hP 0 rfl rfl 13 (by decide) (hts (.fieldLink RX5 65 "AlarmgroveModel" "events" "I") (by decide +kernel)) (fun _ h9 => h9) rfl dX5_isEvent_7 ?_
    refine lv_icmp_ge (tgt := 17) hx hb dX5_isEvent_10 (by decide) (fun c3 => ?_) (fun c3 => ?_)
    · replace he := he.trans (if_pos c3)
      refine lv_iconst (v := 0) hx hb dX5_isEvent_17 (by decide) ?_
      subst he
      exact kont1 (Or.inl rfl) _ _ hP hD hS _ (lv_sub hl [] rfl)
    · replace he := he.trans (if_neg c3)
      refine lv_iconst (v := 1) hx hb dX5_isEvent_13 (by decide) ?_
      refine lv_goto (tgt := 18) hx hb dX5_isEvent_14 (by decide) ?_
      subst he
      exact kont1 (Or.inr rfl) _ _ hP hD hS _ (lv_sub hl [] rfl)
abbrev rm_X5_events : Room := { frames := 0, cells := 0, slots := 0, locals := 0 }
abbrev Q_X5_events (D : va_G) (cI : ClassId) (m0 m1 m2 m3 m4 m5 m6 m7 m8 m9 m10 m11 : Nat) (mr : Int32) (mc : Int32) (me : Int32) (mw : Int32) (mh : Int32) (mn : AA) (mu : AA) (ms : AA) (mt : AA) (md : AA) (mz : AA) (mi : AA) (mk : AA) (mo : AA) (mj : AA) (ml : AA) (A : Nat → Prop) : Array Value → State → Outcome → State → Prop := va_Qi (S := Int32) (fun r u => f_X5_events me = (r, u)) (fun u t => QW D [(cI, .int)] A (W_X5 cI m0 m1 m2 m3 m4 m5 m6 m7 m8 m9 m10 m11 mr mc me mw u mn mu ms mt md mz mi mk mo mj ml) t) A
set_option maxHeartbeats 4000000 in
set_option maxRecDepth 100000 in
theorem c_X5_events (l : Launch)  (D : va_G) (cI : ClassId) (m0 m1 m2 m3 m4 m5 m6 m7 m8 m9 m10 m11 : Nat) (mr : Int32) (mc : Int32) (me : Int32) (mw : Int32) (mh : Int32) (mn : AA) (mu : AA) (ms : AA) (mt : AA) (md : AA) (mz : AA) (mi : AA) (mk : AA) (mo : AA) (mj : AA) (ml : AA) (sz : Nat) : Met l yX5_events wsX5_events rm_X5_events (va_Pc [.ref m0] (PW D [(cI, .int)] sz (W_X5 cI m0 m1 m2 m3 m4 m5 m6 m7 m8 m9 m10 m11 mr mc me mw mh mn mu ms mt md mz mi mk mo mj ml))) (Q_X5_events D cI m0 m1 m2 m3 m4 m5 m6 m7 m8 m9 m10 m11 mr mc me mw mh mn mu ms mt md mz mi mk mo mj ml (va_A (W_X5 cI m0 m1 m2 m3 m4 m5 m6 m7 m8 m9 m10 m11 mr mc me mw mh mn mu ms mt md mz mi mk mo mj ml) sz)) 0 0 (va_A (W_X5 cI m0 m1 m2 m3 m4 m5 m6 m7 m8 m9 m10 m11 mr mc me mw mh mn mu ms mt md mz mi mk mo mj ml) sz) := by
  refine Met.ofW (cc := cX5_events) (maxL := 1) (ret := (some .int)) (by decide) rfl ?_
  intro p e s m args below meth c s₁ B hml hv
  obtain ⟨rfl, hsz, hP, hK, hD0, hN⟩ := hv
  have hx := B.exec
  have hb := B.bytes
  have hr := B.returns
  have hts := atoms_spec (ws := wsX5_events) B.pre
  have hown : s.vm.findClass RX5 = some m.cls := findClass_of_methodNamed B.named
  have hlocks := B.notSynchronized
  subst hsz
  have hD := hD0.self (sz := s.heap.size)
  generalize hAe : va_A (W_X5 cI m0 m1 m2 m3 m4 m5 m6 m7 m8 m9 m10 m11 mr mc me mw mh mn mu ms mt md mz mi mk mo mj ml) s.heap.size = A at hD ⊢
  have hA : ∀ q : Nat, s.heap.size ≤ q → A q := fun q h => by rw [← hAe]; exact Or.inr h
  have hS : va_S A s.heap s.heap [] := va_S.rf
  have hl := lv_entry ([.ref m0]) (n := 1) (Nat.le_of_ble_eq_true rfl)
  rw [lg_entry_eq]
  generalize (lg_sl ([.ref m0]) ++ List.replicate (1 - (lg_sl ([.ref m0])).length) Slot.unset).toArray = ls at hl ⊢
  have hl : lv_has ls 1 [(0, .ref m0)] := hl
  have he := f_X5_events.eq_1 me
  refine lv_aload_n hx hb dX5_events_0 rfl (lv_at hl 0 rfl) ?_
  refine lv_iconst (v := 0) hx hb dX5_events_1 (by decide) ?_
  refine va_put (D := D) (ci := 5) (v := .int 0) (ty := .int) (C := RX5) (T := TX5) (N := 16) hx hb hts (by decide +kernel) tyX5 tyX5_ok nmX5 hown hK hP hD hS 0 rfl rfl 15 (by decide) (hts (.fieldLink RX5 43 "AlarmgroveModel" "thrown" "I") (by decide +kernel)) (fun _ h9 => h9) rfl (by decide +kernel) rfl rfl (Nat.le_of_ble_eq_true rfl) dX5_events_2 (fun H locs hP hD hS => ?_)
  have hP : va_P D vwCl (W_X5 cI m0 m1 m2 m3 m4 m5 m6 m7 m8 m9 m10 m11 mr mc me mw 0 mn mu ms mt md mz mi mk mo mj ml) H := hP
  have hD : va_D A (W_X5 cI m0 m1 m2 m3 m4 m5 m6 m7 m8 m9 m10 m11 mr mc me mw 0 mn mu ms mt md mz mi mk mo mj ml) := hD
  refine lv_aload_n hx hb dX5_events_5 rfl (lv_at hl 0 rfl) ?_
  refine va_get (D := D) (ci := 5) (v := .int me) (C := RX5) (T := TX5) (N := 16) hx hb hts (by decide +kernel) hown hK hP 0 rfl rfl 13 (by decide) (hts (.fieldLink RX5 65 "AlarmgroveModel" "events" "I") (by decide +kernel)) (fun _ h9 => h9) rfl dX5_events_6 ?_
  exact W.iret (v := me) hx hb hr (fun t ht hW => ⟨⟨me, 0, rfl, he, by rw [ht]; exact hP, va_K.moved hW.alike hK, hD⟩, hS.F ht⟩) hS.2.2 dX5_events_9
abbrev rm_X5_eventKind : Room := { frames := 2, cells := 0, slots := 0, locals := 43 }
abbrev Q_X5_eventKind (D : va_G) (cI : ClassId) (m0 m1 m2 m3 m4 m5 m6 m7 m8 m9 m10 m11 : Nat) (mr : Int32) (mc : Int32) (me : Int32) (mw : Int32) (mh : Int32) (mn : AA) (mu : AA) (ms : AA) (mt : AA) (md : AA) (mz : AA) (mi : AA) (mk : AA) (mo : AA) (mj : AA) (ml : AA) (a1 : Int32) (A : Nat → Prop) : Array Value → State → Outcome → State → Prop := va_Qi (S := Int32) (fun r u => f_X5_eventKind me mk a1 = (r, u)) (fun u t => QW D [(cI, .int)] A (W_X5 cI m0 m1 m2 m3 m4 m5 m6 m7 m8 m9 m10 m11 mr mc me mw u mn mu ms mt md mz mi mk mo mj ml) t) A
set_option maxHeartbeats 4000000 in
set_option maxRecDepth 100000 in
theorem c_X5_eventKind (l : Launch)  (D : va_G) (cI : ClassId) (m0 m1 m2 m3 m4 m5 m6 m7 m8 m9 m10 m11 : Nat) (mr : Int32) (mc : Int32) (me : Int32) (mw : Int32) (mh : Int32) (mn : AA) (mu : AA) (ms : AA) (mt : AA) (md : AA) (mz : AA) (mi : AA) (mk : AA) (mo : AA) (mj : AA) (ml : AA) (sz : Nat) (a1 : Int32) (hp : p_X5_eventKind me mk a1) : Met l yX5_eventKind wsX5_eventKind rm_X5_eventKind (va_Pc [.ref m0, .int a1] (PW D [(cI, .int)] sz (W_X5 cI m0 m1 m2 m3 m4 m5 m6 m7 m8 m9 m10 m11 mr mc me mw mh mn mu ms mt md mz mi mk mo mj ml))) (Q_X5_eventKind D cI m0 m1 m2 m3 m4 m5 m6 m7 m8 m9 m10 m11 mr mc me mw mh mn mu ms mt md mz mi mk mo mj ml a1 (va_A (W_X5 cI m0 m1 m2 m3 m4 m5 m6 m7 m8 m9 m10 m11 mr mc me mw mh mn mu ms mt md mz mi mk mo mj ml) sz)) 0 0 (va_A (W_X5 cI m0 m1 m2 m3 m4 m5 m6 m7 m8 m9 m10 m11 mr mc me mw mh mn mu ms mt md mz mi mk mo mj ml) sz) := by
  refine Met.ofW (cc := cX5_eventKind) (maxL := 2) (ret := (some .int)) (by decide) rfl ?_
  intro p e s m args below meth c s₁ B hml hv
  obtain ⟨rfl, hsz, hP, hK, hD0, hN⟩ := hv
  have hx := B.exec
  have hb := B.bytes
  have hr := B.returns
  have hts := atoms_spec (ws := wsX5_eventKind) B.pre
  have hown : s.vm.findClass RX5 = some m.cls := findClass_of_methodNamed B.named
  have hlocks := B.notSynchronized
  subst hsz
  have hD := hD0.self (sz := s.heap.size)
  generalize hAe : va_A (W_X5 cI m0 m1 m2 m3 m4 m5 m6 m7 m8 m9 m10 m11 mr mc me mw mh mn mu ms mt md mz mi mk mo mj ml) s.heap.size = A at hD ⊢
  have hA : ∀ q : Nat, s.heap.size ≤ q → A q := fun q h => by rw [← hAe]; exact Or.inr h
  have hS : va_S A s.heap s.heap [] := va_S.rf
  have hl := lv_entry ([.ref m0, .int a1]) (n := 2) (Nat.le_of_ble_eq_true rfl)
  rw [lg_entry_eq]
  generalize (lg_sl ([.ref m0, .int a1]) ++ List.replicate (2 - (lg_sl ([.ref m0, .int a1])).length) Slot.unset).toArray = ls at hl ⊢
  have hl : lv_has ls 2 [(0, .ref m0), (1, .int a1)] := hl
  have he := f_X5_eventKind.eq_1 me mk a1
  replace hp := Eq.mp (p_X5_eventKind.eq_1 ..) hp
  refine lv_aload_n hx hb dX5_eventKind_0 rfl (lv_at hl 0 rfl) ?_
  refine lv_iload_n hx hb dX5_eventKind_1 rfl (lv_at hl 1 rfl) ?_
  refine k_calli (S := Int32) (wc := (W_X5 cI m0 m1 m2 m3 m4 m5 m6 m7 m8 m9 m10 m11 mr mc me mw mh mn mu ms mt md mz mi mk mo mj ml)) (wr := ([] : va_W)) (w1 := fun u => (W_X5 cI m0 m1 m2 m3 m4 m5 m6 m7 m8 m9 m10 m11 mr mc me mw u mn mu ms mt md mz mi mk mo mj ml)) (fun u => (W_X5 cI m0 m1 m2 m3 m4 m5 m6 m7 m8 m9 m10 m11 mr mc me mw u mn mu ms mt md mz mi mk mo mj ml)) hP hK hD hN hS hA [0, 1, 2, 3, 4, 5, 6, 7, 8, 9, 10, 11] [] rfl rfl (by decide) (by decide) (by decide) [0, 1, 2, 3, 4, 5, 6, 7, 8, 9, 10, 11] (by decide) (fun _ => rfl) (fun hg => va_runV (As := [.int a1]) (rest := []) ⟨hx, hb, hml, hown, hts⟩ (c_X5_isEvent l D cI m0 m1 m2 m3 m4 m5 m6 m7 m8 m9 m10 m11 mr mc me mw mh mn mu ms mt md mz mi mk mo mj ml _ a1) (cwV 1 hts gX5_eventKind_X5_isEvent rfl rfl rfl (by decide +kernel) ⟨Nat.le_of_ble_eq_true rfl, Nat.le_of_ble_eq_true rfl⟩) ⟨PW.blind, va_recv hK hP (ci := 5) (q0 := 0) rfl rfl, fun U hU hW => ⟨rfl, hg U hU hW⟩⟩ rfl rfl hl.1 rfl (lv_room (Nat.le_of_ble_eq_true rfl)) dX5_eventKind_2 ⟨Nat.le_of_ble_eq_true rfl, Nat.le_of_ble_eq_true rfl⟩) (fun r1 u H locs hw hP hD hS => ?_)
  obtain ⟨u1_0, rfl⟩ : ∃ z, z = u := ⟨_, rfl⟩
  obtain ⟨hw, hb1⟩ := hw
  rw [hw] at he
  try dsimp only at he
  replace hp := hp r1 u1_0 hw
  have hP : va_P D vwCl (W_X5 cI m0 m1 m2 m3 m4 m5 m6 m7 m8 m9 m10 m11 mr mc me mw u1_0 mn mu ms mt md mz mi mk mo mj ml) H := hP
  have hD : va_D A (W_X5 cI m0 m1 m2 m3 m4 m5 m6 m7 m8 m9 m10 m11 mr mc me mw u1_0 mn mu ms mt md mz mi mk mo mj ml) := hD
  obtain ⟨j2, hJ2⟩ : ∃ z : Int32, z = (if r1 = 0 then (0 : Int32) else (mk (a1).toNatClampNeg)) := ⟨_, rfl⟩
  rw [← hJ2] at he
  try dsimp only at he
  have hpJ2 := hp.1
  replace hp := hp.2 _  hJ2.symm
  have kont2 : ∀ (H : Heap) (locs : List Loc), va_P D vwCl (W_X5 cI m0 m1 m2 m3 m4 m5 m6 m7 m8 m9 m10 m11 mr mc me mw u1_0 mn mu ms mt md mz mi mk mo mj ml) H → va_D A (W_X5 cI m0 m1 m2 m3 m4 m5 m6 m7 m8 m9 m10 m11 mr mc me mw u1_0 mn mu ms mt md mz mi mk mo mj ml) → va_S A s.heap H locs → ∀ ls : Array Slot, lv_has ls 2 [] → W p l e (headSpec wsX5_eventKind rm_X5_eventKind).room s m ([.ref m0, .int a1] : List Value).toArray below meth c H locs 0 0 (MQ below (Q_X5_eventKind D cI m0 m1 m2 m3 m4 m5 m6 m7 m8 m9 m10 m11 mr mc me mw mh mn mu ms mt md mz mi mk mo mj ml a1 A) ([.ref m0, .int a1] : List Value).toArray s 0 0 A) (F0 m 18 ls [.int j2]) := by
    intro H locs hP hD hS ls hl
    exact W.iret (v := j2) hx hb hr (fun t ht hW => ⟨⟨j2, u1_0, rfl, he, by rw [ht]; exact hP, va_K.moved hW.alike hK, hD⟩, hS.F ht⟩) hS.2.2 dX5_eventKind_18
  replace he := hJ2
  replace hp := hpJ2
  refine lv_if_eq (tgt := 17) hx hb dX5_eventKind_5 (by decide) (fun c3 => ?_) (fun c3 => ?_)
  · replace hp := hp.1 c3
    replace he := he.trans (if_pos c3)
    refine lv_iconst (v := 0) hx hb dX5_eventKind_17 (by decide) ?_
    subst he
    exact kont2 _ _ hP hD hS _ (lv_sub hl [] rfl)
  · replace hp := hp.2 c3
    replace he := he.trans (if_neg c3)
    refine lv_aload_n hx hb dX5_eventKind_8 rfl (lv_at hl 0 rfl) ?_
    refine va_get (D := D) (ci := 5) (v := .ref m8) (C := RX5) (T := TX5) (N := 16) hx hb hts (by decide +kernel) hown hK hP 0 rfl rfl 9 (by decide) (hts (.fieldLink RX5 31 "AlarmgroveModel" "kind" "[I") (by decide +kernel)) (fun _ h9 => h9) rfl dX5_eventKind_9 ?_
    refine lv_iload_n hx hb dX5_eventKind_12 rfl (lv_at hl 1 rfl) ?_
    have h4 := hp.1
    replace hp := hp.2
    refine va_iald hx hb hK hP 8 0 rfl rfl h4 dX5_eventKind_13 ?_
    refine lv_goto (tgt := 18) hx hb dX5_eventKind_14 (by decide) ?_
    subst he
    exact kont2 _ _ hP hD hS _ (lv_sub hl [] rfl)
abbrev rm_X5_eventNode : Room := { frames := 2, cells := 0, slots := 0, locals := 43 }
abbrev Q_X5_eventNode (D : va_G) (cI : ClassId) (m0 m1 m2 m3 m4 m5 m6 m7 m8 m9 m10 m11 : Nat) (mr : Int32) (mc : Int32) (me : Int32) (mw : Int32) (mh : Int32) (mn : AA) (mu : AA) (ms : AA) (mt : AA) (md : AA) (mz : AA) (mi : AA) (mk : AA) (mo : AA) (mj : AA) (ml : AA) (a1 : Int32) (A : Nat → Prop) : Array Value → State → Outcome → State → Prop := va_Qi (S := Int32) (fun r u => f_X5_eventNode me mo a1 = (r, u)) (fun u t => QW D [(cI, .int)] A (W_X5 cI m0 m1 m2 m3 m4 m5 m6 m7 m8 m9 m10 m11 mr mc me mw u mn mu ms mt md mz mi mk mo mj ml) t) A
set_option maxHeartbeats 4000000 in
set_option maxRecDepth 100000 in
theorem c_X5_eventNode (l : Launch)  (D : va_G) (cI : ClassId) (m0 m1 m2 m3 m4 m5 m6 m7 m8 m9 m10 m11 : Nat) (mr : Int32) (mc : Int32) (me : Int32) (mw : Int32) (mh : Int32) (mn : AA) (mu : AA) (ms : AA) (mt : AA) (md : AA) (mz : AA) (mi : AA) (mk : AA) (mo : AA) (mj : AA) (ml : AA) (sz : Nat) (a1 : Int32) (hp : p_X5_eventNode me mo a1) : Met l yX5_eventNode wsX5_eventNode rm_X5_eventNode (va_Pc [.ref m0, .int a1] (PW D [(cI, .int)] sz (W_X5 cI m0 m1 m2 m3 m4 m5 m6 m7 m8 m9 m10 m11 mr mc me mw mh mn mu ms mt md mz mi mk mo mj ml))) (Q_X5_eventNode D cI m0 m1 m2 m3 m4 m5 m6 m7 m8 m9 m10 m11 mr mc me mw mh mn mu ms mt md mz mi mk mo mj ml a1 (va_A (W_X5 cI m0 m1 m2 m3 m4 m5 m6 m7 m8 m9 m10 m11 mr mc me mw mh mn mu ms mt md mz mi mk mo mj ml) sz)) 0 0 (va_A (W_X5 cI m0 m1 m2 m3 m4 m5 m6 m7 m8 m9 m10 m11 mr mc me mw mh mn mu ms mt md mz mi mk mo mj ml) sz) := by
  refine Met.ofW (cc := cX5_eventNode) (maxL := 2) (ret := (some .int)) (by decide) rfl ?_
  intro p e s m args below meth c s₁ B hml hv
  obtain ⟨rfl, hsz, hP, hK, hD0, hN⟩ := hv
  have hx := B.exec
  have hb := B.bytes
  have hr := B.returns
  have hts := atoms_spec (ws := wsX5_eventNode) B.pre
  have hown : s.vm.findClass RX5 = some m.cls := findClass_of_methodNamed B.named
  have hlocks := B.notSynchronized
  subst hsz
  have hD := hD0.self (sz := s.heap.size)
  generalize hAe : va_A (W_X5 cI m0 m1 m2 m3 m4 m5 m6 m7 m8 m9 m10 m11 mr mc me mw mh mn mu ms mt md mz mi mk mo mj ml) s.heap.size = A at hD ⊢
  have hA : ∀ q : Nat, s.heap.size ≤ q → A q := fun q h => by rw [← hAe]; exact Or.inr h
  have hS : va_S A s.heap s.heap [] := va_S.rf
  have hl := lv_entry ([.ref m0, .int a1]) (n := 2) (Nat.le_of_ble_eq_true rfl)
  rw [lg_entry_eq]
  generalize (lg_sl ([.ref m0, .int a1]) ++ List.replicate (2 - (lg_sl ([.ref m0, .int a1])).length) Slot.unset).toArray = ls at hl ⊢
  have hl : lv_has ls 2 [(0, .ref m0), (1, .int a1)] := hl
  have he := f_X5_eventNode.eq_1 me mo a1
  replace hp := Eq.mp (p_X5_eventNode.eq_1 ..) hp
  refine lv_aload_n hx hb dX5_eventNode_0 rfl (lv_at hl 0 rfl) ?_
  refine lv_iload_n hx hb dX5_eventNode_1 rfl (lv_at hl 1 rfl) ?_
  refine k_calli (S := Int32) (wc := (W_X5 cI m0 m1 m2 m3 m4 m5 m6 m7 m8 m9 m10 m11 mr mc me mw mh mn mu ms mt md mz mi mk mo mj ml)) (wr := ([] : va_W)) (w1 := fun u => (W_X5 cI m0 m1 m2 m3 m4 m5 m6 m7 m8 m9 m10 m11 mr mc me mw u mn mu ms mt md mz mi mk mo mj ml)) (fun u => (W_X5 cI m0 m1 m2 m3 m4 m5 m6 m7 m8 m9 m10 m11 mr mc me mw u mn mu ms mt md mz mi mk mo mj ml)) hP hK hD hN hS hA [0, 1, 2, 3, 4, 5, 6, 7, 8, 9, 10, 11] [] rfl rfl (by decide) (by decide) (by decide) [0, 1, 2, 3, 4, 5, 6, 7, 8, 9, 10, 11] (by decide) (fun _ => rfl) (fun hg => va_runV (As := [.int a1]) (rest := []) ⟨hx, hb, hml, hown, hts⟩ (c_X5_isEvent l D cI m0 m1 m2 m3 m4 m5 m6 m7 m8 m9 m10 m11 mr mc me mw mh mn mu ms mt md mz mi mk mo mj ml _ a1) (cwV 1 hts gX5_eventNode_X5_isEvent rfl rfl rfl (by decide +kernel) ⟨Nat.le_of_ble_eq_true rfl, Nat.le_of_ble_eq_true rfl⟩) ⟨PW.blind, va_recv hK hP (ci := 5) (q0 := 0) rfl rfl, fun U hU hW => ⟨rfl, hg U hU hW⟩⟩ rfl rfl hl.1 rfl (lv_room (Nat.le_of_ble_eq_true rfl)) dX5_eventNode_2 ⟨Nat.le_of_ble_eq_true rfl, Nat.le_of_ble_eq_true rfl⟩) (fun r1 u H locs hw hP hD hS => ?_)
  obtain ⟨u1_0, rfl⟩ : ∃ z, z = u := ⟨_, rfl⟩
  obtain ⟨hw, hb1⟩ := hw
  rw [hw] at he
  try dsimp only at he
  replace hp := hp r1 u1_0 hw
  have hP : va_P D vwCl (W_X5 cI m0 m1 m2 m3 m4 m5 m6 m7 m8 m9 m10 m11 mr mc me mw u1_0 mn mu ms mt md mz mi mk mo mj ml) H := hP
  have hD : va_D A (W_X5 cI m0 m1 m2 m3 m4 m5 m6 m7 m8 m9 m10 m11 mr mc me mw u1_0 mn mu ms mt md mz mi mk mo mj ml) := hD
  obtain ⟨j2, hJ2⟩ : ∃ z : Int32, z = (if r1 = 0 then (0 : Int32) else (mo (a1).toNatClampNeg)) := ⟨_, rfl⟩
  rw [← hJ2] at he
  try dsimp only at he
  have hpJ2 := hp.1
  replace hp := hp.2 _  hJ2.symm
  have kont2 : ∀ (H : Heap) (locs : List Loc), va_P D vwCl (W_X5 cI m0 m1 m2 m3 m4 m5 m6 m7 m8 m9 m10 m11 mr mc me mw u1_0 mn mu ms mt md mz mi mk mo mj ml) H → va_D A (W_X5 cI m0 m1 m2 m3 m4 m5 m6 m7 m8 m9 m10 m11 mr mc me mw u1_0 mn mu ms mt md mz mi mk mo mj ml) → va_S A s.heap H locs → ∀ ls : Array Slot, lv_has ls 2 [] → W p l e (headSpec wsX5_eventNode rm_X5_eventNode).room s m ([.ref m0, .int a1] : List Value).toArray below meth c H locs 0 0 (MQ below (Q_X5_eventNode D cI m0 m1 m2 m3 m4 m5 m6 m7 m8 m9 m10 m11 mr mc me mw mh mn mu ms mt md mz mi mk mo mj ml a1 A) ([.ref m0, .int a1] : List Value).toArray s 0 0 A) (F0 m 18 ls [.int j2]) := by
    intro H locs hP hD hS ls hl
    exact W.iret (v := j2) hx hb hr (fun t ht hW => ⟨⟨j2, u1_0, rfl, he, by rw [ht]; exact hP, va_K.moved hW.alike hK, hD⟩, hS.F ht⟩) hS.2.2 dX5_eventNode_18
  replace he := hJ2
  replace hp := hpJ2
  refine lv_if_eq (tgt := 17) hx hb dX5_eventNode_5 (by decide) (fun c3 => ?_) (fun c3 => ?_)
  · replace hp := hp.1 c3
    replace he := he.trans (if_pos c3)
    refine lv_iconst (v := 0) hx hb dX5_eventNode_17 (by decide) ?_
    subst he
    exact kont2 _ _ hP hD hS _ (lv_sub hl [] rfl)
  · replace hp := hp.2 c3
    replace he := he.trans (if_neg c3)
    refine lv_aload_n hx hb dX5_eventNode_8 rfl (lv_at hl 0 rfl) ?_
    refine va_get (D := D) (ci := 5) (v := .ref m9) (C := RX5) (T := TX5) (N := 16) hx hb hts (by decide +kernel) hown hK hP 0 rfl rfl 10 (by decide) (hts (.fieldLink RX5 34 "AlarmgroveModel" "node" "[I") (by decide +kernel)) (fun _ h9 => h9) rfl dX5_eventNode_9 ?_
    refine lv_iload_n hx hb dX5_eventNode_12 rfl (lv_at hl 1 rfl) ?_
    have h4 := hp.1
    replace hp := hp.2
    refine va_iald hx hb hK hP 9 0 rfl rfl h4 dX5_eventNode_13 ?_
    refine lv_goto (tgt := 18) hx hb dX5_eventNode_14 (by decide) ?_
    subst he
    exact kont2 _ _ hP hD hS _ (lv_sub hl [] rfl)
abbrev rm_X5_eventTime : Room := { frames := 2, cells := 0, slots := 0, locals := 43 }
abbrev Q_X5_eventTime (D : va_G) (cI : ClassId) (m0 m1 m2 m3 m4 m5 m6 m7 m8 m9 m10 m11 : Nat) (mr : Int32) (mc : Int32) (me : Int32) (mw : Int32) (mh : Int32) (mn : AA) (mu : AA) (ms : AA) (mt : AA) (md : AA) (mz : AA) (mi : AA) (mk : AA) (mo : AA) (mj : AA) (ml : AA) (a1 : Int32) (A : Nat → Prop) : Array Value → State → Outcome → State → Prop := va_Qi (S := Int32) (fun r u => f_X5_eventTime me mj a1 = (r, u)) (fun u t => QW D [(cI, .int)] A (W_X5 cI m0 m1 m2 m3 m4 m5 m6 m7 m8 m9 m10 m11 mr mc me mw u mn mu ms mt md mz mi mk mo mj ml) t) A
set_option maxHeartbeats 4000000 in
set_option maxRecDepth 100000 in
theorem c_X5_eventTime (l : Launch)  (D : va_G) (cI : ClassId) (m0 m1 m2 m3 m4 m5 m6 m7 m8 m9 m10 m11 : Nat) (mr : Int32) (mc : Int32) (me : Int32) (mw : Int32) (mh : Int32) (mn : AA) (mu : AA) (ms : AA) (mt : AA) (md : AA) (mz : AA) (mi : AA) (mk : AA) (mo : AA) (mj : AA) (ml : AA) (sz : Nat) (a1 : Int32) (hp : p_X5_eventTime me mj a1) : Met l yX5_eventTime wsX5_eventTime rm_X5_eventTime (va_Pc [.ref m0, .int a1] (PW D [(cI, .int)] sz (W_X5 cI m0 m1 m2 m3 m4 m5 m6 m7 m8 m9 m10 m11 mr mc me mw mh mn mu ms mt md mz mi mk mo mj ml))) (Q_X5_eventTime D cI m0 m1 m2 m3 m4 m5 m6 m7 m8 m9 m10 m11 mr mc me mw mh mn mu ms mt md mz mi mk mo mj ml a1 (va_A (W_X5 cI m0 m1 m2 m3 m4 m5 m6 m7 m8 m9 m10 m11 mr mc me mw mh mn mu ms mt md mz mi mk mo mj ml) sz)) 0 0 (va_A (W_X5 cI m0 m1 m2 m3 m4 m5 m6 m7 m8 m9 m10 m11 mr mc me mw mh mn mu ms mt md mz mi mk mo mj ml) sz) := by
  refine Met.ofW (cc := cX5_eventTime) (maxL := 2) (ret := (some .int)) (by decide) rfl ?_
  intro p e s m args below meth c s₁ B hml hv
  obtain ⟨rfl, hsz, hP, hK, hD0, hN⟩ := hv
  have hx := B.exec
  have hb := B.bytes
  have hr := B.returns
  have hts := atoms_spec (ws := wsX5_eventTime) B.pre
  have hown : s.vm.findClass RX5 = some m.cls := findClass_of_methodNamed B.named
  have hlocks := B.notSynchronized
  subst hsz
  have hD := hD0.self (sz := s.heap.size)
  generalize hAe : va_A (W_X5 cI m0 m1 m2 m3 m4 m5 m6 m7 m8 m9 m10 m11 mr mc me mw mh mn mu ms mt md mz mi mk mo mj ml) s.heap.size = A at hD ⊢
  have hA : ∀ q : Nat, s.heap.size ≤ q → A q := fun q h => by rw [← hAe]; exact Or.inr h
  have hS : va_S A s.heap s.heap [] := va_S.rf
  have hl := lv_entry ([.ref m0, .int a1]) (n := 2) (Nat.le_of_ble_eq_true rfl)
  rw [lg_entry_eq]
  generalize (lg_sl ([.ref m0, .int a1]) ++ List.replicate (2 - (lg_sl ([.ref m0, .int a1])).length) Slot.unset).toArray = ls at hl ⊢
  have hl : lv_has ls 2 [(0, .ref m0), (1, .int a1)] := hl
  have he := f_X5_eventTime.eq_1 me mj a1
  replace hp := Eq.mp (p_X5_eventTime.eq_1 ..) hp
  refine lv_aload_n hx hb dX5_eventTime_0 rfl (lv_at hl 0 rfl) ?_
  refine lv_iload_n hx hb dX5_eventTime_1 rfl (lv_at hl 1 rfl) ?_
  refine k_calli (S := Int32) (wc := (W_X5 cI m0 m1 m2 m3 m4 m5 m6 m7 m8 m9 m10 m11 mr mc me mw mh mn mu ms mt md mz mi mk mo mj ml)) (wr := ([] : va_W)) (w1 := fun u => (W_X5 cI m0 m1 m2 m3 m4 m5 m6 m7 m8 m9 m10 m11 mr mc me mw u mn mu ms mt md mz mi mk mo mj ml)) (fun u => (W_X5 cI m0 m1 m2 m3 m4 m5 m6 m7 m8 m9 m10 m11 mr mc me mw u mn mu ms mt md mz mi mk mo mj ml)) hP hK hD hN hS hA [0, 1, 2, 3, 4, 5, 6, 7, 8, 9, 10, 11] [] rfl rfl (by decide) (by decide) (by decide) [0, 1, 2, 3, 4, 5, 6, 7, 8, 9, 10, 11] (by decide) (fun _ => rfl) (fun hg => va_runV (As := [.int a1]) (rest := []) ⟨hx, hb, hml, hown, hts⟩ (c_X5_isEvent l D cI m0 m1 m2 m3 m4 m5 m6 m7 m8 m9 m10 m11 mr mc me mw mh mn mu ms mt md mz mi mk mo mj ml _ a1) (cwV 1 hts gX5_eventTime_X5_isEvent rfl rfl rfl (by decide +kernel) ⟨Nat.le_of_ble_eq_true rfl, Nat.le_of_ble_eq_true rfl⟩) ⟨PW.blind, va_recv hK hP (ci := 5) (q0 := 0) rfl rfl, fun U hU hW => ⟨rfl, hg U hU hW⟩⟩ rfl rfl hl.1 rfl (lv_room (Nat.le_of_ble_eq_true rfl)) dX5_eventTime_2 ⟨Nat.le_of_ble_eq_true rfl, Nat.le_of_ble_eq_true rfl⟩) (fun r1 u H locs hw hP hD hS => ?_)
  obtain ⟨u1_0, rfl⟩ : ∃ z, z = u := ⟨_, rfl⟩
  obtain ⟨hw, hb1⟩ := hw
  rw [hw] at he
  try dsimp only at he
  replace hp := hp r1 u1_0 hw
  have hP : va_P D vwCl (W_X5 cI m0 m1 m2 m3 m4 m5 m6 m7 m8 m9 m10 m11 mr mc me mw u1_0 mn mu ms mt md mz mi mk mo mj ml) H := hP
  have hD : va_D A (W_X5 cI m0 m1 m2 m3 m4 m5 m6 m7 m8 m9 m10 m11 mr mc me mw u1_0 mn mu ms mt md mz mi mk mo mj ml) := hD
  obtain ⟨j2, hJ2⟩ : ∃ z : Int32, z = (if r1 = 0 then (0 : Int32) else (mj (a1).toNatClampNeg)) := ⟨_, rfl⟩
  rw [← hJ2] at he
  try dsimp only at he
  have hpJ2 := hp.1
  replace hp := hp.2 _  hJ2.symm
  have kont2 : ∀ (H : Heap) (locs : List Loc), va_P D vwCl (W_X5 cI m0 m1 m2 m3 m4 m5 m6 m7 m8 m9 m10 m11 mr mc me mw u1_0 mn mu ms mt md mz mi mk mo mj ml) H → va_D A (W_X5 cI m0 m1 m2 m3 m4 m5 m6 m7 m8 m9 m10 m11 mr mc me mw u1_0 mn mu ms mt md mz mi mk mo mj ml) → va_S A s.heap H locs → ∀ ls : Array Slot, lv_has ls 2 [] → W p l e (headSpec wsX5_eventTime rm_X5_eventTime).room s m ([.ref m0, .int a1] : List Value).toArray below meth c H locs 0 0 (MQ below (Q_X5_eventTime D cI m0 m1 m2 m3 m4 m5 m6 m7 m8 m9 m10 m11 mr mc me mw mh mn mu ms mt md mz mi mk mo mj ml a1 A) ([.ref m0, .int a1] : List Value).toArray s 0 0 A) (F0 m 18 ls [.int j2]) := by
    intro H locs hP hD hS ls hl
    exact W.iret (v := j2) hx hb hr (fun t ht hW => ⟨⟨j2, u1_0, rfl, he, by rw [ht]; exact hP, va_K.moved hW.alike hK, hD⟩, hS.F ht⟩) hS.2.2 dX5_eventTime_18
  replace he := hJ2
  replace hp := hpJ2
  refine lv_if_eq (tgt := 17) hx hb dX5_eventTime_5 (by decide) (fun c3 => ?_) (fun c3 => ?_)
  · replace hp := hp.1 c3
    replace he := he.trans (if_pos c3)
    refine lv_iconst (v := 0) hx hb dX5_eventTime_17 (by decide) ?_
    subst he
    exact kont2 _ _ hP hD hS _ (lv_sub hl [] rfl)
  · replace hp := hp.2 c3
    replace he := he.trans (if_neg c3)
    refine lv_aload_n hx hb dX5_eventTime_8 rfl (lv_at hl 0 rfl) ?_
    refine va_get (D := D) (ci := 5) (v := .ref m10) (C := RX5) (T := TX5) (N := 16) hx hb hts (by decide +kernel) hown hK hP 0 rfl rfl 11 (by decide) (hts (.fieldLink RX5 37 "AlarmgroveModel" "time" "[I") (by decide +kernel)) (fun _ h9 => h9) rfl dX5_eventTime_9 ?_
    refine lv_iload_n hx hb dX5_eventTime_12 rfl (lv_at hl 1 rfl) ?_
    have h4 := hp.1
    replace hp := hp.2
    refine va_iald hx hb hK hP 10 0 rfl rfl h4 dX5_eventTime_13 ?_
    refine lv_goto (tgt := 18) hx hb dX5_eventTime_14 (by decide) ?_
    subst he
    exact kont2 _ _ hP hD hS _ (lv_sub hl [] rfl)
abbrev rm_X5_eventLength : Room := { frames := 2, cells := 0, slots := 0, locals := 43 }
abbrev Q_X5_eventLength (D : va_G) (cI : ClassId) (m0 m1 m2 m3 m4 m5 m6 m7 m8 m9 m10 m11 : Nat) (mr : Int32) (mc : Int32) (me : Int32) (mw : Int32) (mh : Int32) (mn : AA) (mu : AA) (ms : AA) (mt : AA) (md : AA) (mz : AA) (mi : AA) (mk : AA) (mo : AA) (mj : AA) (ml : AA) (a1 : Int32) (A : Nat → Prop) : Array Value → State → Outcome → State → Prop := va_Qi (S := Int32) (fun r u => f_X5_eventLength me ml a1 = (r, u)) (fun u t => QW D [(cI, .int)] A (W_X5 cI m0 m1 m2 m3 m4 m5 m6 m7 m8 m9 m10 m11 mr mc me mw u mn mu ms mt md mz mi mk mo mj ml) t) A
set_option maxHeartbeats 4000000 in
set_option maxRecDepth 100000 in
theorem c_X5_eventLength (l : Launch)  (D : va_G) (cI : ClassId) (m0 m1 m2 m3 m4 m5 m6 m7 m8 m9 m10 m11 : Nat) (mr : Int32) (mc : Int32) (me : Int32) (mw : Int32) (mh : Int32) (mn : AA) (mu : AA) (ms : AA) (mt : AA) (md : AA) (mz : AA) (mi : AA) (mk : AA) (mo : AA) (mj : AA) (ml : AA) (sz : Nat) (a1 : Int32) (hp : p_X5_eventLength me ml a1) : Met l yX5_eventLength wsX5_eventLength rm_X5_eventLength (va_Pc [.ref m0, .int a1] (PW D [(cI, .int)] sz (W_X5 cI m0 m1 m2 m3 m4 m5 m6 m7 m8 m9 m10 m11 mr mc me mw mh mn mu ms mt md mz mi mk mo mj ml))) (Q_X5_eventLength D cI m0 m1 m2 m3 m4 m5 m6 m7 m8 m9 m10 m11 mr mc me mw mh mn mu ms mt md mz mi mk mo mj ml a1 (va_A (W_X5 cI m0 m1 m2 m3 m4 m5 m6 m7 m8 m9 m10 m11 mr mc me mw mh mn mu ms mt md mz mi mk mo mj ml) sz)) 0 0 (va_A (W_X5 cI m0 m1 m2 m3 m4 m5 m6 m7 m8 m9 m10 m11 mr mc me mw mh mn mu ms mt md mz mi mk mo mj ml) sz) := by
  refine Met.ofW (cc := cX5_eventLength) (maxL := 2) (ret := (some .int)) (by decide) rfl ?_
  intro p e s m args below meth c s₁ B hml hv
  obtain ⟨rfl, hsz, hP, hK, hD0, hN⟩ := hv
  have hx := B.exec
  have hb := B.bytes
  have hr := B.returns
  have hts := atoms_spec (ws := wsX5_eventLength) B.pre
  have hown : s.vm.findClass RX5 = some m.cls := findClass_of_methodNamed B.named
  have hlocks := B.notSynchronized
  subst hsz
  have hD := hD0.self (sz := s.heap.size)
  generalize hAe : va_A (W_X5 cI m0 m1 m2 m3 m4 m5 m6 m7 m8 m9 m10 m11 mr mc me mw mh mn mu ms mt md mz mi mk mo mj ml) s.heap.size = A at hD ⊢
  have hA : ∀ q : Nat, s.heap.size ≤ q → A q := fun q h => by rw [← hAe]; exact Or.inr h
  have hS : va_S A s.heap s.heap [] := va_S.rf
  have hl := lv_entry ([.ref m0, .int a1]) (n := 2) (Nat.le_of_ble_eq_true rfl)
  rw [lg_entry_eq]
  generalize (lg_sl ([.ref m0, .int a1]) ++ List.replicate (2 - (lg_sl ([.ref m0, .int a1])).length) Slot.unset).toArray = ls at hl ⊢
  have hl : lv_has ls 2 [(0, .ref m0), (1, .int a1)] := hl
  have he := f_X5_eventLength.eq_1 me ml a1
  replace hp := Eq.mp (p_X5_eventLength.eq_1 ..) hp
  refine lv_aload_n hx hb dX5_eventLength_0 rfl (lv_at hl 0 rfl) ?_
  refine lv_iload_n hx hb dX5_eventLength_1 rfl (lv_at hl 1 rfl) ?_
  refine k_calli (S := Int32) (wc := (W_X5 cI m0 m1 m2 m3 m4 m5 m6 m7 m8 m9 m10 m11 mr mc me mw mh mn mu ms mt md mz mi mk mo mj ml)) (wr := ([] : va_W)) (w1 := fun u => (W_X5 cI m0 m1 m2 m3 m4 m5 m6 m7 m8 m9 m10 m11 mr mc me mw u mn mu ms mt md mz mi mk mo mj ml)) (fun u => (W_X5 cI m0 m1 m2 m3 m4 m5 m6 m7 m8 m9 m10 m11 mr mc me mw u mn mu ms mt md mz mi mk mo mj ml)) hP hK hD hN hS hA [0, 1, 2, 3, 4, 5, 6, 7, 8, 9, 10, 11] [] rfl rfl (by decide) (by decide) (by decide) [0, 1, 2, 3, 4, 5, 6, 7, 8, 9, 10, 11] (by decide) (fun _ => rfl) (fun hg => va_runV (As := [.int a1]) (rest := []) ⟨hx, hb, hml, hown, hts⟩ (c_X5_isEvent l D cI m0 m1 m2 m3 m4 m5 m6 m7 m8 m9 m10 m11 mr mc me mw mh mn mu ms mt md mz mi mk mo mj ml _ a1) (cwV 1 hts gX5_eventLength_X5_isEvent rfl rfl rfl (by decide +kernel) ⟨Nat.le_of_ble_eq_true rfl, Nat.le_of_ble_eq_true rfl⟩) ⟨PW.blind, va_recv hK hP (ci := 5) (q0 := 0) rfl rfl, fun U hU hW => ⟨rfl, hg U hU hW⟩⟩ rfl rfl hl.1 rfl (lv_room (Nat.le_of_ble_eq_true rfl)) dX5_eventLength_2 ⟨Nat.le_of_ble_eq_true rfl, Nat.le_of_ble_eq_true rfl⟩) (fun r1 u H locs hw hP hD hS => ?_)
  obtain ⟨u1_0, rfl⟩ : ∃ z, z = u := ⟨_, rfl⟩
  obtain ⟨hw, hb1⟩ := hw
  rw [hw] at he
  try dsimp only at he
  replace hp := hp r1 u1_0 hw
  have hP : va_P D vwCl (W_X5 cI m0 m1 m2 m3 m4 m5 m6 m7 m8 m9 m10 m11 mr mc me mw u1_0 mn mu ms mt md mz mi mk mo mj ml) H := hP
  have hD : va_D A (W_X5 cI m0 m1 m2 m3 m4 m5 m6 m7 m8 m9 m10 m11 mr mc me mw u1_0 mn mu ms mt md mz mi mk mo mj ml) := hD
  obtain ⟨j2, hJ2⟩ : ∃ z : Int32, z = (if r1 = 0 then (0 : Int32) else (ml (a1).toNatClampNeg)) := ⟨_, rfl⟩
  rw [← hJ2] at he
  try dsimp only at he
  have hpJ2 := hp.1
  replace hp := hp.2 _  hJ2.symm
  have kont2 : ∀ (H : Heap) (locs : List Loc), va_P D vwCl (W_X5 cI m0 m1 m2 m3 m4 m5 m6 m7 m8 m9 m10 m11 mr mc me mw u1_0 mn mu ms mt md mz mi mk mo mj ml) H → va_D A (W_X5 cI m0 m1 m2 m3 m4 m5 m6 m7 m8 m9 m10 m11 mr mc me mw u1_0 mn mu ms mt md mz mi mk mo mj ml) → va_S A s.heap H locs → ∀ ls : Array Slot, lv_has ls 2 [] → W p l e (headSpec wsX5_eventLength rm_X5_eventLength).room s m ([.ref m0, .int a1] : List Value).toArray below meth c H locs 0 0 (MQ below (Q_X5_eventLength D cI m0 m1 m2 m3 m4 m5 m6 m7 m8 m9 m10 m11 mr mc me mw mh mn mu ms mt md mz mi mk mo mj ml a1 A) ([.ref m0, .int a1] : List Value).toArray s 0 0 A) (F0 m 18 ls [.int j2]) := by
    intro H locs hP hD hS ls hl
    exact W.iret (v := j2) hx hb hr (fun t ht hW => ⟨⟨j2, u1_0, rfl, he, by rw [ht]; exact hP, va_K.moved hW.alike hK, hD⟩, hS.F ht⟩) hS.2.2 dX5_eventLength_18
  replace he := hJ2
  replace hp := hpJ2
  refine lv_if_eq (tgt := 17) hx hb dX5_eventLength_5 (by decide) (fun c3 => ?_) (fun c3 => ?_)
  · replace hp := hp.1 c3
    replace he := he.trans (if_pos c3)
    refine lv_iconst (v := 0) hx hb dX5_eventLength_17 (by decide) ?_
    subst he
    exact kont2 _ _ hP hD hS _ (lv_sub hl [] rfl)
  · replace hp := hp.2 c3
    replace he := he.trans (if_neg c3)
    refine lv_aload_n hx hb dX5_eventLength_8 rfl (lv_at hl 0 rfl) ?_
    refine va_get (D := D) (ci := 5) (v := .ref m11) (C := RX5) (T := TX5) (N := 16) hx hb hts (by decide +kernel) hown hK hP 0 rfl rfl 12 (by decide) (hts (.fieldLink RX5 40 "AlarmgroveModel" "length" "[I") (by decide +kernel)) (fun _ h9 => h9) rfl dX5_eventLength_9 ?_
    refine lv_iload_n hx hb dX5_eventLength_12 rfl (lv_at hl 1 rfl) ?_
    have h4 := hp.1
    replace hp := hp.2
    refine va_iald hx hb hK hP 11 0 rfl rfl h4 dX5_eventLength_13 ?_
    refine lv_goto (tgt := 18) hx hb dX5_eventLength_14 (by decide) ?_
    subst he
    exact kont2 _ _ hP hD hS _ (lv_sub hl [] rfl)
abbrev rm_X5_openTickets : Room := { frames := 0, cells := 0, slots := 0, locals := 0 }
abbrev Q_X5_openTickets (D : va_G) (cI : ClassId) (m0 m1 m2 m3 m4 m5 m6 m7 m8 m9 m10 m11 : Nat) (mr : Int32) (mc : Int32) (me : Int32) (mw : Int32) (mh : Int32) (mn : AA) (mu : AA) (ms : AA) (mt : AA) (md : AA) (mz : AA) (mi : AA) (mk : AA) (mo : AA) (mj : AA) (ml : AA) (A : Nat → Prop) : Array Value → State → Outcome → State → Prop := va_Qi (S := Int32) (fun r u => f_X5_openTickets mc mz = (r, u)) (fun u t => QW D [(cI, .int)] A (W_X5 cI m0 m1 m2 m3 m4 m5 m6 m7 m8 m9 m10 m11 mr mc me mw u mn mu ms mt md mz mi mk mo mj ml) t) A
set_option maxHeartbeats 4000000 in
set_option maxRecDepth 100000 in
theorem c_X5_openTickets (l : Launch)  (D : va_G) (cI : ClassId) (m0 m1 m2 m3 m4 m5 m6 m7 m8 m9 m10 m11 : Nat) (mr : Int32) (mc : Int32) (me : Int32) (mw : Int32) (mh : Int32) (mn : AA) (mu : AA) (ms : AA) (mt : AA) (md : AA) (mz : AA) (mi : AA) (mk : AA) (mo : AA) (mj : AA) (ml : AA) (sz : Nat) (hp : p_X5_openTickets mc mz) : Met l yX5_openTickets wsX5_openTickets rm_X5_openTickets (va_Pc [.ref m0] (PW D [(cI, .int)] sz (W_X5 cI m0 m1 m2 m3 m4 m5 m6 m7 m8 m9 m10 m11 mr mc me mw mh mn mu ms mt md mz mi mk mo mj ml))) (Q_X5_openTickets D cI m0 m1 m2 m3 m4 m5 m6 m7 m8 m9 m10 m11 mr mc me mw mh mn mu ms mt md mz mi mk mo mj ml (va_A (W_X5 cI m0 m1 m2 m3 m4 m5 m6 m7 m8 m9 m10 m11 mr mc me mw mh mn mu ms mt md mz mi mk mo mj ml) sz)) 0 0 (va_A (W_X5 cI m0 m1 m2 m3 m4 m5 m6 m7 m8 m9 m10 m11 mr mc me mw mh mn mu ms mt md mz mi mk mo mj ml) sz) := by
  refine Met.ofW (cc := cX5_openTickets) (maxL := 3) (ret := (some .int)) (by decide) rfl ?_
  intro p e s m args below meth c s₁ B hml hv
  obtain ⟨rfl, hsz, hP, hK, hD0, hN⟩ := hv
  have hx := B.exec
  have hb := B.bytes
  have hr := B.returns
  have hts := atoms_spec (ws := wsX5_openTickets) B.pre
  have hown : s.vm.findClass RX5 = some m.cls := findClass_of_methodNamed B.named
  have hlocks := B.notSynchronized
  subst hsz
  have hD := hD0.self (sz := s.heap.size)
  generalize hAe : va_A (W_X5 cI m0 m1 m2 m3 m4 m5 m6 m7 m8 m9 m10 m11 mr mc me mw mh mn mu ms mt md mz mi mk mo mj ml) s.heap.size = A at hD ⊢
  have hA : ∀ q : Nat, s.heap.size ≤ q → A q := fun q h => by rw [← hAe]; exact Or.inr h
  have hS : va_S A s.heap s.heap [] := va_S.rf
  have hl := lv_entry ([.ref m0]) (n := 3) (Nat.le_of_ble_eq_true rfl)
  rw [lg_entry_eq]
  generalize (lg_sl ([.ref m0]) ++ List.replicate (3 - (lg_sl ([.ref m0])).length) Slot.unset).toArray = ls at hl ⊢
  have hl : lv_has ls 3 [(0, .ref m0)] := hl
  have he := f_X5_openTickets.eq_1 mc mz
  replace hp := Eq.mp (p_X5_openTickets.eq_1 ..) hp
  refine lv_aload_n hx hb dX5_openTickets_0 rfl (lv_at hl 0 rfl) ?_
  refine lv_iconst (v := 0) hx hb dX5_openTickets_1 (by decide) ?_
  refine va_put (D := D) (ci := 5) (v := .int 0) (ty := .int) (C := RX5) (T := TX5) (N := 16) hx hb hts (by decide +kernel) tyX5 tyX5_ok nmX5 hown hK hP hD hS 0 rfl rfl 15 (by decide) (hts (.fieldLink RX5 43 "AlarmgroveModel" "thrown" "I") (by decide +kernel)) (fun _ h9 => h9) rfl (by decide +kernel) rfl rfl (Nat.le_of_ble_eq_true rfl) dX5_openTickets_2 (fun H locs hP hD hS => ?_)
  have hP : va_P D vwCl (W_X5 cI m0 m1 m2 m3 m4 m5 m6 m7 m8 m9 m10 m11 mr mc me mw 0 mn mu ms mt md mz mi mk mo mj ml) H := hP
  have hD : va_D A (W_X5 cI m0 m1 m2 m3 m4 m5 m6 m7 m8 m9 m10 m11 mr mc me mw 0 mn mu ms mt md mz mi mk mo mj ml) := hD
  refine lv_iconst (v := 0) hx hb dX5_openTickets_5 (by decide) ?_
  refine lv_istore_n (lv' := [(1, .int 0), (0, .ref m0)]) hx hb dX5_openTickets_6 rfl hl (by decide) rfl (fun ls hl => ?_)
  refine lv_iconst (v := 1) hx hb dX5_openTickets_7 (by decide) ?_
  refine lv_istore_n (lv' := [(2, .int 1), (1, .int 0), (0, .ref m0)]) hx hb dX5_openTickets_8 rfl hl (by decide) rfl (fun ls hl => ?_)
  obtain ⟨⟨r1_v9_1, r1_v9_2⟩, hL1⟩ : ∃ z, z = f_X5_openTickets_L9 mc mz 302 (0 : Int32) (1 : Int32) := ⟨_, rfl⟩
  rw [← hL1] at he
  try dsimp only at he
  have hpL1 := hp.1
  replace hp := hp.2 _ _ hL1.symm
  have kont1 : ∀ (x1_v9_1 : Int32) (x1_v9_2 : Int32), (r1_v9_1, r1_v9_2) = (x1_v9_1, x1_v9_2) → ∀ (H : Heap) (locs : List Loc), va_P D vwCl (W_X5 cI m0 m1 m2 m3 m4 m5 m6 m7 m8 m9 m10 m11 mr mc me mw 0 mn mu ms mt md mz mi mk mo mj ml) H → va_D A (W_X5 cI m0 m1 m2 m3 m4 m5 m6 m7 m8 m9 m10 m11 mr mc me mw 0 mn mu ms mt md mz mi mk mo mj ml) → va_S A s.heap H locs → ∀ ls : Array Slot, lv_has ls 3 [(1, .int x1_v9_1)] → W p l e (headSpec wsX5_openTickets rm_X5_openTickets).room s m ([.ref m0] : List Value).toArray below meth c H locs 0 0 (MQ below (Q_X5_openTickets D cI m0 m1 m2 m3 m4 m5 m6 m7 m8 m9 m10 m11 mr mc me mw mh mn mu ms mt md mz mi mk mo mj ml A) ([.ref m0] : List Value).toArray s 0 0 A) (F0 m 41 ls []) := by
    intro x1_v9_1 x1_v9_2 hxe H locs hP hD hS ls hl
    simp only [Prod.mk.injEq] at hxe
    obtain ⟨rfl, rfl⟩ := hxe
    refine lv_iload_n hx hb dX5_openTickets_41 rfl (lv_at hl 0 rfl) ?_
    exact W.iret (v := r1_v9_1) hx hb hr (fun t ht hW => ⟨⟨r1_v9_1, 0, rfl, he, by rw [ht]; exact hP, va_K.moved hW.alike hK, hD⟩, hS.F ht⟩) hS.2.2 dX5_openTickets_42
  have loop1 : ∀ (n : Nat) (v9_1 : Int32) (v9_2 : Int32), p_X5_openTickets_L9 mc mz n v9_1 v9_2 → (r1_v9_1, r1_v9_2) = f_X5_openTickets_L9 mc mz n v9_1 v9_2 → ∀ (H : Heap) (locs : List Loc), va_P D vwCl (W_X5 cI m0 m1 m2 m3 m4 m5 m6 m7 m8 m9 m10 m11 mr mc me mw 0 mn mu ms mt md mz mi mk mo mj ml) H → va_D A (W_X5 cI m0 m1 m2 m3 m4 m5 m6 m7 m8 m9 m10 m11 mr mc me mw 0 mn mu ms mt md mz mi mk mo mj ml) → va_S A s.heap H locs → ∀ ls : Array Slot, lv_has ls 3 [(2, .int v9_2), (1, .int v9_1), (0, .ref m0)] → W p l e (headSpec wsX5_openTickets rm_X5_openTickets).room s m ([.ref m0] : List Value).toArray below meth c H locs 0 0 (MQ below (Q_X5_openTickets D cI m0 m1 m2 m3 m4 m5 m6 m7 m8 m9 m10 m11 mr mc me mw mh mn mu ms mt md mz mi mk mo mj ml A) ([.ref m0] : List Value).toArray s 0 0 A) (F0 m 9 ls []) := by
    intro n
    induction n with
    | zero => exact fun _ _ hp => hp.elim
    | succ n ih =>
      intro v9_1 v9_2 hp he H locs hP hD hS ls hl
      replace hp := Eq.mp (p_X5_openTickets_L9.eq_2 ..) hp
      replace he := he.trans (f_X5_openTickets_L9.eq_2 ..)
      refine lv_iload_n hx hb dX5_openTickets_9 rfl (lv_at hl 0 rfl) ?_
      refine lv_aload_n hx hb dX5_openTickets_10 rfl (lv_at hl 2 rfl) ?_
      refine va_get (D := D) (ci := 5) (v := .int mc) (C := RX5) (T := TX5) (N := 16) hx hb hts (by decide +kernel) hown hK hP 0 rfl rfl 8 (by decide) (hts (.fieldLink RX5 75 "AlarmgroveModel" "tickets" "I") (by decide +kernel)) (fun _ h9 => h9) rfl dX5_openTickets_11 ?_
      refine lv_icmp_gt (tgt := 41) hx hb dX5_openTickets_14 (by decide) (fun c2 => ?_) (fun c2 => ?_)
      · replace hp := hp.1 c2
        replace he := he.trans (if_pos c2)
        exact kont1 _ _ he _ _ hP hD hS _ (lv_sub hl [1] rfl)
      · replace hp := hp.2 c2
        replace he := he.trans (if_neg c2)
        refine lv_iload_n hx hb dX5_openTickets_17 rfl (lv_at hl 1 rfl) ?_
        refine lv_aload_n hx hb dX5_openTickets_18 rfl (lv_at hl 2 rfl) ?_
        refine va_get (D := D) (ci := 5) (v := .ref m6) (C := RX5) (T := TX5) (N := 16) hx hb hts (by decide +kernel) hown hK hP 0 rfl rfl 6 (by decide) (hts (.fieldLink RX5 25 "AlarmgroveModel" "states" "[I") (by decide +kernel)) (fun _ h9 => h9) rfl dX5_openTickets_19 ?_
        refine lv_iload_n hx hb dX5_openTickets_22 rfl (lv_at hl 0 rfl) ?_
        have h3 := hp.1
        replace hp := hp.2
        refine va_iald hx hb hK hP 6 0 rfl rfl h3 dX5_openTickets_23 ?_
        refine lv_iconst (v := 1) hx hb dX5_openTickets_24 (by decide) ?_
        obtain ⟨j4, hJ4⟩ : ∃ z : Int32, z = (if (mz (v9_2).toNatClampNeg) = 1 then (1 : Int32) else (0 : Int32)) := ⟨_, rfl⟩
        rw [← hJ4] at he
        try dsimp only at he
        have hpJ4 := hp.1
        replace hp := hp.2 _  hJ4.symm
        have kont4 : (j4 = 0 ∨ j4 = 1) → ∀ (H : Heap) (locs : List Loc), va_P D vwCl (W_X5 cI m0 m1 m2 m3 m4 m5 m6 m7 m8 m9 m10 m11 mr mc me mw 0 mn mu ms mt md mz mi mk mo mj ml) H → va_D A (W_X5 cI m0 m1 m2 m3 m4 m5 m6 m7 m8 m9 m10 m11 mr mc me mw 0 mn mu ms mt md mz mi mk mo mj ml) → va_S A s.heap H locs → ∀ ls : Array Slot, lv_has ls 3 [(2, .int v9_2), (0, .ref m0)] → W p l e (headSpec wsX5_openTickets rm_X5_openTickets).room s m ([.ref m0] : List Value).toArray below meth c H locs 0 0 (MQ below (Q_X5_openTickets D cI m0 m1 m2 m3 m4 m5 m6 m7 m8 m9 m10 m11 mr mc me mw mh mn mu ms mt md mz mi mk mo mj ml A) ([.ref m0] : List Value).toArray s 0 0 A) (F0 m 33 ls [.int j4, .int v9_1]) := by
          intro hb4 H locs hP hD hS ls hl
          refine lv_iadd hx hb dX5_openTickets_33 ?_
          refine lv_istore_n (lv' := [(1, .int (v9_1 + j4)), (2, .int v9_2), (0, .ref m0)]) hx hb dX5_openTickets_34 rfl hl (by decide) rfl (fun ls hl => ?_)
          refine lv_iinc (v := (v9_2 + 1)) (lv' := [(2, .int (v9_2 + 1)), (1, .int (v9_1 + j4)), (0, .ref m0)]) hx hb dX5_openTickets_35 hl (k := 1) rfl rfl (by decide) rfl (fun ls hl => ?_)
          refine lv_goto (tgt := 9) hx hb dX5_openTickets_38 (by decide) ?_
          exact ih _ _ hp he _ _ hP hD hS _ (lv_sub hl [0, 1, 2] rfl)
        replace he := hJ4
        replace hp := hpJ4
        refine lv_icmp_ne (tgt := 32) hx hb dX5_openTickets_25 (by decide) (fun c5 => ?_) (fun c5 => ?_)
        · replace hp := hp.2 c5
          replace he := he.trans (if_neg c5)
          refine lv_iconst (v := 0) hx hb dX5_openTickets_32 (by decide) ?_
          subst he
          exact kont4 (Or.inl rfl) _ _ hP hD hS _ (lv_sub hl [0, 2] rfl)
        · replace hp := hp.1 c5
          replace he := he.trans (if_pos c5)
          refine lv_iconst (v := 1) hx hb dX5_openTickets_28 (by decide) ?_
          refine lv_goto (tgt := 33) hx hb dX5_openTickets_29 (by decide) ?_
          subst he
          exact kont4 (Or.inr rfl) _ _ hP hD hS _ (lv_sub hl [0, 2] rfl)
  exact loop1 302 (0 : Int32) (1 : Int32) hpL1 hL1 _ _ hP hD hS _ (lv_sub hl [0, 1, 2] rfl)
abbrev rm_X5_ticketOf : Room := { frames := 1, cells := 0, slots := 0, locals := 22 }
abbrev Q_X5_ticketOf (D : va_G) (cI : ClassId) (m0 m1 m2 m3 m4 m5 m6 m7 m8 m9 m10 m11 : Nat) (mr : Int32) (mc : Int32) (me : Int32) (mw : Int32) (mh : Int32) (mn : AA) (mu : AA) (ms : AA) (mt : AA) (md : AA) (mz : AA) (mi : AA) (mk : AA) (mo : AA) (mj : AA) (ml : AA) (a1 : Int32) (A : Nat → Prop) : Array Value → State → Outcome → State → Prop := va_Qi (S := Int32) (fun r u => f_X5_ticketOf mr mt a1 = (r, u)) (fun u t => QW D [(cI, .int)] A (W_X5 cI m0 m1 m2 m3 m4 m5 m6 m7 m8 m9 m10 m11 mr mc me mw u mn mu ms mt md mz mi mk mo mj ml) t) A
set_option maxHeartbeats 4000000 in
set_option maxRecDepth 100000 in
theorem c_X5_ticketOf (l : Launch)  (D : va_G) (cI : ClassId) (m0 m1 m2 m3 m4 m5 m6 m7 m8 m9 m10 m11 : Nat) (mr : Int32) (mc : Int32) (me : Int32) (mw : Int32) (mh : Int32) (mn : AA) (mu : AA) (ms : AA) (mt : AA) (md : AA) (mz : AA) (mi : AA) (mk : AA) (mo : AA) (mj : AA) (ml : AA) (sz : Nat) (a1 : Int32) (hp : p_X5_ticketOf mr mt a1) : Met l yX5_ticketOf wsX5_ticketOf rm_X5_ticketOf (va_Pc [.ref m0, .int a1] (PW D [(cI, .int)] sz (W_X5 cI m0 m1 m2 m3 m4 m5 m6 m7 m8 m9 m10 m11 mr mc me mw mh mn mu ms mt md mz mi mk mo mj ml))) (Q_X5_ticketOf D cI m0 m1 m2 m3 m4 m5 m6 m7 m8 m9 m10 m11 mr mc me mw mh mn mu ms mt md mz mi mk mo mj ml a1 (va_A (W_X5 cI m0 m1 m2 m3 m4 m5 m6 m7 m8 m9 m10 m11 mr mc me mw mh mn mu ms mt md mz mi mk mo mj ml) sz)) 0 0 (va_A (W_X5 cI m0 m1 m2 m3 m4 m5 m6 m7 m8 m9 m10 m11 mr mc me mw mh mn mu ms mt md mz mi mk mo mj ml) sz) := by
  refine Met.ofW (cc := cX5_ticketOf) (maxL := 3) (ret := (some .int)) (by decide) rfl ?_
  intro p e s m args below meth c s₁ B hml hv
  obtain ⟨rfl, hsz, hP, hK, hD0, hN⟩ := hv
  have hx := B.exec
  have hb := B.bytes
  have hr := B.returns
  have hts := atoms_spec (ws := wsX5_ticketOf) B.pre
  have hown : s.vm.findClass RX5 = some m.cls := findClass_of_methodNamed B.named
  have hlocks := B.notSynchronized
  subst hsz
  have hD := hD0.self (sz := s.heap.size)
  generalize hAe : va_A (W_X5 cI m0 m1 m2 m3 m4 m5 m6 m7 m8 m9 m10 m11 mr mc me mw mh mn mu ms mt md mz mi mk mo mj ml) s.heap.size = A at hD ⊢
  have hA : ∀ q : Nat, s.heap.size ≤ q → A q := fun q h => by rw [← hAe]; exact Or.inr h
  have hS : va_S A s.heap s.heap [] := va_S.rf
  have hl := lv_entry ([.ref m0, .int a1]) (n := 3) (Nat.le_of_ble_eq_true rfl)
  rw [lg_entry_eq]
  generalize (lg_sl ([.ref m0, .int a1]) ++ List.replicate (3 - (lg_sl ([.ref m0, .int a1])).length) Slot.unset).toArray = ls at hl ⊢
  have hl : lv_has ls 3 [(0, .ref m0), (1, .int a1)] := hl
  have he := f_X5_ticketOf.eq_1 mr mt a1
  replace hp := Eq.mp (p_X5_ticketOf.eq_1 ..) hp
  refine lv_aload_n hx hb dX5_ticketOf_0 rfl (lv_at hl 0 rfl) ?_
  refine lv_iload_n hx hb dX5_ticketOf_1 rfl (lv_at hl 1 rfl) ?_
  refine k_calli (S := Unit) (wc := ([] : va_W)) (wr := (W_X5 cI m0 m1 m2 m3 m4 m5 m6 m7 m8 m9 m10 m11 mr mc me mw mh mn mu ms mt md mz mi mk mo mj ml)) (w1 := fun u => ([] : va_W)) (fun u => (W_X5 cI m0 m1 m2 m3 m4 m5 m6 m7 m8 m9 m10 m11 mr mc me mw mh mn mu ms mt md mz mi mk mo mj ml)) hP hK hD hN hS hA [] [0, 1, 2, 3, 4, 5, 6, 7, 8, 9, 10, 11] rfl rfl (by decide) (by decide) (by decide) [0, 1, 2, 3, 4, 5, 6, 7, 8, 9, 10, 11] (by decide) (fun _ => rfl) (fun hg => va_runS (As := [.int a1]) (rest := [.ref m0]) ⟨hx, hb, hml, hown, hts⟩ (c_X5_isNode l D cI _ a1) (va_cwS 1 hts gX5_ticketOf_X5_isNode rfl rfl rfl (by decide +kernel) ⟨Nat.le_of_ble_eq_true rfl, Nat.le_of_ble_eq_true rfl⟩) ⟨PW.blind, fun U hU hW => ⟨rfl, hg U hU hW⟩⟩ rfl rfl hl.1 rfl (lv_room (Nat.le_of_ble_eq_true rfl)) dX5_ticketOf_2 ⟨Nat.le_of_ble_eq_true rfl, Nat.le_of_ble_eq_true rfl⟩) (fun r1 u H locs hw hP hD hS => ?_)
  obtain ⟨hw, hb1⟩ := hw
  subst hw
  refine lv_iconst (v := 1) hx hb dX5_ticketOf_5 (by decide) ?_
  refine k_calli (S := Int32) (wc := (W_X5 cI m0 m1 m2 m3 m4 m5 m6 m7 m8 m9 m10 m11 mr mc me mw mh mn mu ms mt md mz mi mk mo mj ml)) (wr := ([] : va_W)) (w1 := fun u => (W_X5 cI m0 m1 m2 m3 m4 m5 m6 m7 m8 m9 m10 m11 mr mc me mw u mn mu ms mt md mz mi mk mo mj ml)) (fun u => (W_X5 cI m0 m1 m2 m3 m4 m5 m6 m7 m8 m9 m10 m11 mr mc me mw u mn mu ms mt md mz mi mk mo mj ml)) hP hK hD hN hS hA [0, 1, 2, 3, 4, 5, 6, 7, 8, 9, 10, 11] [] rfl rfl (by decide) (by decide) (by decide) [0, 1, 2, 3, 4, 5, 6, 7, 8, 9, 10, 11] (by decide) (fun _ => rfl) (fun hg => va_runV (As := [.int (f_X5_isNode a1), .int 1]) (rest := []) ⟨hx, hb, hml, hown, hts⟩ (c_X5_goes l D cI m0 m1 m2 m3 m4 m5 m6 m7 m8 m9 m10 m11 mr mc me mw mh mn mu ms mt md mz mi mk mo mj ml _ (f_X5_isNode a1) 1) (cwV 2 hts gX5_ticketOf_X5_goes rfl rfl rfl (by decide +kernel) ⟨Nat.le_of_ble_eq_true rfl, Nat.le_of_ble_eq_true rfl⟩) ⟨PW.blind, va_recv hK hP (ci := 5) (q0 := 0) rfl rfl, fun U hU hW => ⟨rfl, hg U hU hW⟩⟩ rfl rfl hl.1 rfl (lv_room (Nat.le_of_ble_eq_true rfl)) dX5_ticketOf_6 ⟨Nat.le_of_ble_eq_true rfl, Nat.le_of_ble_eq_true rfl⟩) (fun r2 u H locs hw hP hD hS => ?_)
  obtain ⟨u2_0, rfl⟩ : ∃ z, z = u := ⟨_, rfl⟩
  obtain ⟨hw, hb2⟩ := hw
  rw [hw] at he
  try dsimp only at he
  replace hp := hp r2 u2_0 hw
  have hP : va_P D vwCl (W_X5 cI m0 m1 m2 m3 m4 m5 m6 m7 m8 m9 m10 m11 mr mc me mw u2_0 mn mu ms mt md mz mi mk mo mj ml) H := hP
  have hD : va_D A (W_X5 cI m0 m1 m2 m3 m4 m5 m6 m7 m8 m9 m10 m11 mr mc me mw u2_0 mn mu ms mt md mz mi mk mo mj ml) := hD
  refine lv_istore_n (lv' := [(2, .int r2), (0, .ref m0), (1, .int a1)]) hx hb dX5_ticketOf_9 rfl hl (by decide) rfl (fun ls hl => ?_)
  refine lv_iload_n hx hb dX5_ticketOf_10 rfl (lv_at hl 0 rfl) ?_
  obtain ⟨j3, hJ3⟩ : ∃ z : Int32, z = (if r2 = 0 then (0 : Int32) else (if (f_X5_has mr a1) = 0 then ((-1) : Int32) else (mt (a1).toNatClampNeg))) := ⟨_, rfl⟩
  rw [← hJ3] at he
  try dsimp only at he
  have hpJ3 := hp.1
  replace hp := hp.2 _  hJ3.symm
  have kont3 : ∀ (H : Heap) (locs : List Loc), va_P D vwCl (W_X5 cI m0 m1 m2 m3 m4 m5 m6 m7 m8 m9 m10 m11 mr mc me mw u2_0 mn mu ms mt md mz mi mk mo mj ml) H → va_D A (W_X5 cI m0 m1 m2 m3 m4 m5 m6 m7 m8 m9 m10 m11 mr mc me mw u2_0 mn mu ms mt md mz mi mk mo mj ml) → va_S A s.heap H locs → ∀ ls : Array Slot, lv_has ls 3 [] → W p l e (headSpec wsX5_ticketOf rm_X5_ticketOf).room s m ([.ref m0, .int a1] : List Value).toArray below meth c H locs 0 0 (MQ below (Q_X5_ticketOf D cI m0 m1 m2 m3 m4 m5 m6 m7 m8 m9 m10 m11 mr mc me mw mh mn mu ms mt md mz mi mk mo mj ml a1 A) ([.ref m0, .int a1] : List Value).toArray s 0 0 A) (F0 m 39 ls [.int j3]) := by
    intro H locs hP hD hS ls hl
    exact W.iret (v := j3) hx hb hr (fun t ht hW => ⟨⟨j3, u2_0, rfl, he, by rw [ht]; exact hP, va_K.moved hW.alike hK, hD⟩, hS.F ht⟩) hS.2.2 dX5_ticketOf_39
  replace he := hJ3
  replace hp := hpJ3
  refine lv_if_eq (tgt := 38) hx hb dX5_ticketOf_11 (by decide) (fun c4 => ?_) (fun c4 => ?_)
  · replace hp := hp.1 c4
    replace he := he.trans (if_pos c4)
    refine lv_iconst (v := 0) hx hb dX5_ticketOf_38 (by decide) ?_
    subst he
    exact kont3 _ _ hP hD hS _ (lv_sub hl [] rfl)
  · replace hp := hp.2 c4
    replace he := he.trans (if_neg c4)
    refine lv_aload_n hx hb dX5_ticketOf_14 rfl (lv_at hl 1 rfl) ?_
    refine va_get (D := D) (ci := 5) (v := .int mr) (C := RX5) (T := TX5) (N := 16) hx hb hts (by decide +kernel) hown hK hP 0 rfl rfl 2 (by decide) (hts (.fieldLink RX5 68 "AlarmgroveModel" "raised" "I") (by decide +kernel)) (fun _ h9 => h9) rfl dX5_ticketOf_15 ?_
    refine lv_iload_n hx hb dX5_ticketOf_18 rfl (lv_at hl 2 rfl) ?_
    refine k_calli (S := Unit) (wc := ([] : va_W)) (wr := (W_X5 cI m0 m1 m2 m3 m4 m5 m6 m7 m8 m9 m10 m11 mr mc me mw u2_0 mn mu ms mt md mz mi mk mo mj ml)) (w1 := fun u => ([] : va_W)) (fun u => (W_X5 cI m0 m1 m2 m3 m4 m5 m6 m7 m8 m9 m10 m11 mr mc me mw u2_0 mn mu ms mt md mz mi mk mo mj ml)) hP hK hD hN hS hA [] [0, 1, 2, 3, 4, 5, 6, 7, 8, 9, 10, 11] rfl rfl (by decide) (by decide) (by decide) [0, 1, 2, 3, 4, 5, 6, 7, 8, 9, 10, 11] (by decide) (fun _ => rfl) (fun hg => va_runS (As := [.int mr, .int a1]) (rest := []) ⟨hx, hb, hml, hown, hts⟩ (c_X5_has l D cI _ mr a1) (va_cwS 2 hts gX5_ticketOf_X5_has rfl rfl rfl (by decide +kernel) ⟨Nat.le_of_ble_eq_true rfl, Nat.le_of_ble_eq_true rfl⟩) ⟨PW.blind, fun U hU hW => ⟨rfl, hg U hU hW⟩⟩ rfl rfl hl.1 rfl (lv_room (Nat.le_of_ble_eq_true rfl)) dX5_ticketOf_19 ⟨Nat.le_of_ble_eq_true rfl, Nat.le_of_ble_eq_true rfl⟩) (fun r5 u H locs hw hP hD hS => ?_)
    obtain ⟨hw, hb5⟩ := hw
    subst hw
    refine lv_if_eq (tgt := 34) hx hb dX5_ticketOf_22 (by decide) (fun c6 => ?_) (fun c6 => ?_)
    · replace hp := hp.1 c6
      replace he := he.trans (if_pos c6)
      refine lv_iconst (v := (-1)) hx hb dX5_ticketOf_34 (by decide) ?_
      refine lv_goto (tgt := 39) hx hb dX5_ticketOf_35 (by decide) ?_
      subst he
      exact kont3 _ _ hP hD hS _ (lv_sub hl [] rfl)
    · replace hp := hp.2 c6
      replace he := he.trans (if_neg c6)
      refine lv_aload_n hx hb dX5_ticketOf_25 rfl (lv_at hl 1 rfl) ?_
      refine va_get (D := D) (ci := 5) (v := .ref m4) (C := RX5) (T := TX5) (N := 16) hx hb hts (by decide +kernel) hown hK hP 0 rfl rfl 4 (by decide) (hts (.fieldLink RX5 19 "AlarmgroveModel" "ticket" "[I") (by decide +kernel)) (fun _ h9 => h9) rfl dX5_ticketOf_26 ?_
      refine lv_iload_n hx hb dX5_ticketOf_29 rfl (lv_at hl 2 rfl) ?_
      have h7 := hp.1
      replace hp := hp.2
      refine va_iald hx hb hK hP 4 0 rfl rfl h7 dX5_ticketOf_30 ?_
      refine lv_goto (tgt := 39) hx hb dX5_ticketOf_31 (by decide) ?_
      subst he
      exact kont3 _ _ hP hD hS _ (lv_sub hl [] rfl)
abbrev rm_X5_isTicket : Room := { frames := 0, cells := 0, slots := 0, locals := 0 }
abbrev Q_X5_isTicket (D : va_G) (cI : ClassId) (m0 m1 m2 m3 m4 m5 m6 m7 m8 m9 m10 m11 : Nat) (mr : Int32) (mc : Int32) (me : Int32) (mw : Int32) (mh : Int32) (mn : AA) (mu : AA) (ms : AA) (mt : AA) (md : AA) (mz : AA) (mi : AA) (mk : AA) (mo : AA) (mj : AA) (ml : AA) (a1 : Int32) (A : Nat → Prop) : Array Value → State → Outcome → State → Prop := va_Qi (S := Unit) (fun r u => f_X5_isTicket mc a1 = r ∧ (r = 0 ∨ r = 1)) (fun u t => QW D [(cI, .int)] A (W_X5 cI m0 m1 m2 m3 m4 m5 m6 m7 m8 m9 m10 m11 mr mc me mw mh mn mu ms mt md mz mi mk mo mj ml) t) A
set_option maxHeartbeats 4000000 in
set_option maxRecDepth 100000 in
theorem c_X5_isTicket (l : Launch)  (D : va_G) (cI : ClassId) (m0 m1 m2 m3 m4 m5 m6 m7 m8 m9 m10 m11 : Nat) (mr : Int32) (mc : Int32) (me : Int32) (mw : Int32) (mh : Int32) (mn : AA) (mu : AA) (ms : AA) (mt : AA) (md : AA) (mz : AA) (mi : AA) (mk : AA) (mo : AA) (mj : AA) (ml : AA) (sz : Nat) (a1 : Int32) : Met l yX5_isTicket wsX5_isTicket rm_X5_isTicket (va_Pc [.ref m0, .int a1] (PW D [(cI, .int)] sz (W_X5 cI m0 m1 m2 m3 m4 m5 m6 m7 m8 m9 m10 m11 mr mc me mw mh mn mu ms mt md mz mi mk mo mj ml))) (Q_X5_isTicket D cI m0 m1 m2 m3 m4 m5 m6 m7 m8 m9 m10 m11 mr mc me mw mh mn mu ms mt md mz mi mk mo mj ml a1 (va_A (W_X5 cI m0 m1 m2 m3 m4 m5 m6 m7 m8 m9 m10 m11 mr mc me mw mh mn mu ms mt md mz mi mk mo mj ml) sz)) 0 0 (va_A (W_X5 cI m0 m1 m2 m3 m4 m5 m6 m7 m8 m9 m10 m11 mr mc me mw mh mn mu ms mt md mz mi mk mo mj ml) sz) := by
  refine Met.ofW (cc := cX5_isTicket) (maxL := 2) (ret := (some .boolean)) (by decide) rfl ?_
  intro p e s m args below meth c s₁ B hml hv
  obtain ⟨rfl, hsz, hP, hK, hD0, hN⟩ := hv
  have hx := B.exec
  have hb := B.bytes
  have hr := B.returns
  have hts := atoms_spec (ws := wsX5_isTicket) B.pre
  have hown : s.vm.findClass RX5 = some m.cls := findClass_of_methodNamed B.named
  have hlocks := B.notSynchronized
  subst hsz
  have hD := hD0.self (sz := s.heap.size)
  generalize hAe : va_A (W_X5 cI m0 m1 m2 m3 m4 m5 m6 m7 m8 m9 m10 m11 mr mc me mw mh mn mu ms mt md mz mi mk mo mj ml) s.heap.size = A at hD ⊢
  have hA : ∀ q : Nat, s.heap.size ≤ q → A q := fun q h => by rw [← hAe]; exact Or.inr h
  have hS : va_S A s.heap s.heap [] := va_S.rf
  have hl := lv_entry ([.ref m0, .int a1]) (n := 2) (Nat.le_of_ble_eq_true rfl)
  rw [lg_entry_eq]
  generalize (lg_sl ([.ref m0, .int a1]) ++ List.replicate (2 - (lg_sl ([.ref m0, .int a1])).length) Slot.unset).toArray = ls at hl ⊢
  have hl : lv_has ls 2 [(0, .ref m0), (1, .int a1)] := hl
  have he := f_X5_isTicket.eq_1 mc a1
  refine lv_iload_n hx hb dX5_isTicket_0 rfl (lv_at hl 1 rfl) ?_
  refine lv_iconst (v := 1) hx hb dX5_isTicket_1 (by decide) ?_
  obtain ⟨j1, hJ1⟩ : ∃ z : Int32, z = (if a1 < 1 then (0 : Int32) else (if mc < a1 then (0 : Int32) else (1 : Int32))) := ⟨_, rfl⟩
  rw [← hJ1] at he
  try dsimp only at he
  have kont1 : (j1 = 0 ∨ j1 = 1) → ∀ (H : Heap) (locs : List Loc), va_P D vwCl (W_X5 cI m0 m1 m2 m3 m4 m5 m6 m7 m8 m9 m10 m11 mr mc me mw mh mn mu ms mt md mz mi mk mo mj ml) H → va_D A (W_X5 cI m0 m1 m2 m3 m4 m5 m6 m7 m8 m9 m10 m11 mr mc me mw mh mn mu ms mt md mz mi mk mo mj ml) → va_S A s.heap H locs → ∀ ls : Array Slot, lv_has ls 2 [] → W p l e (headSpec wsX5_isTicket rm_X5_isTicket).room s m ([.ref m0, .int a1] : List Value).toArray below meth c H locs 0 0 (MQ below (Q_X5_isTicket D cI m0 m1 m2 m3 m4 m5 m6 m7 m8 m9 m10 m11 mr mc me mw mh mn mu ms mt md mz mi mk mo mj ml a1 A) ([.ref m0, .int a1] : List Value).toArray s 0 0 A) (F0 m 18 ls [.int j1]) := by
    intro hb1 H locs hP hD hS ls hl
    exact W.zret (ty := .boolean) (v := j1) hx hb hr (by rcases hb1 with h9 | h9 <;> rw [h9] <;> rfl) (fun t ht hW => ⟨⟨j1, (), rfl, ⟨he, hb1⟩, by rw [ht]; exact hP, va_K.moved hW.alike hK, hD⟩, hS.F ht⟩) hS.2.2 dX5_isTicket_18
  replace he := hJ1
  refine lv_icmp_lt (tgt := 17) hx hb dX5_isTicket_2 (by decide) (fun c2 => ?_) (fun c2 => ?_)
  · replace he := he.trans (if_pos c2)
    refine lv_iconst (v := 0) hx hb dX5_isTicket_17 (by decide) ?_
    subst he
    exact kont1 (Or.inl rfl) _ _ hP hD hS _ (lv_sub hl [] rfl)
  · replace he := he.trans (if_neg c2)
    refine lv_iload_n hx hb dX5_isTicket_5 rfl (lv_at hl 1 rfl) ?_
    refine lv_aload_n hx hb dX5_isTicket_6 rfl (lv_at hl 0 rfl) ?_
    refine va_get (D := D) (ci := 5) (v := .int mc) (C := RX5) (T := TX5) (N := 16) hx hb hts (by decide +kernel) hown hK hP 0 rfl rfl 8 (by decide) (hts (.fieldLink RX5 75 "AlarmgroveModel" "tickets" "I") (by decide +kernel)) (fun _ h9 => h9) rfl dX5_isTicket_7 ?_
    refine lv_icmp_gt (tgt := 17) hx hb dX5_isTicket_10 (by decide) (fun c3 => ?_) (fun c3 => ?_)
    · replace he := he.trans (if_pos c3)
      refine lv_iconst (v := 0) hx hb dX5_isTicket_17 (by decide) ?_
      subst he
      exact kont1 (Or.inl rfl) _ _ hP hD hS _ (lv_sub hl [] rfl)
    · replace he := he.trans (if_neg c3)
      refine lv_iconst (v := 1) hx hb dX5_isTicket_13 (by decide) ?_
      refine lv_goto (tgt := 18) hx hb dX5_isTicket_14 (by decide) ?_
      subst he
      exact kont1 (Or.inr rfl) _ _ hP hD hS _ (lv_sub hl [] rfl)
abbrev rm_X5_ticketState : Room := { frames := 1, cells := 0, slots := 0, locals := 21 }
abbrev Q_X5_ticketState (D : va_G) (cI : ClassId) (m0 m1 m2 m3 m4 m5 m6 m7 m8 m9 m10 m11 : Nat) (mr : Int32) (mc : Int32) (me : Int32) (mw : Int32) (mh : Int32) (mn : AA) (mu : AA) (ms : AA) (mt : AA) (md : AA) (mz : AA) (mi : AA) (mk : AA) (mo : AA) (mj : AA) (ml : AA) (a1 : Int32) (A : Nat → Prop) : Array Value → State → Outcome → State → Prop := va_Qi (S := Int32) (fun r u => f_X5_ticketState mc mz a1 = (r, u)) (fun u t => QW D [(cI, .int)] A (W_X5 cI m0 m1 m2 m3 m4 m5 m6 m7 m8 m9 m10 m11 mr mc me mw u mn mu ms mt md mz mi mk mo mj ml) t) A
set_option maxHeartbeats 4000000 in
set_option maxRecDepth 100000 in
theorem c_X5_ticketState (l : Launch)  (D : va_G) (cI : ClassId) (m0 m1 m2 m3 m4 m5 m6 m7 m8 m9 m10 m11 : Nat) (mr : Int32) (mc : Int32) (me : Int32) (mw : Int32) (mh : Int32) (mn : AA) (mu : AA) (ms : AA) (mt : AA) (md : AA) (mz : AA) (mi : AA) (mk : AA) (mo : AA) (mj : AA) (ml : AA) (sz : Nat) (a1 : Int32) (hp : p_X5_ticketState mc mz a1) : Met l yX5_ticketState wsX5_ticketState rm_X5_ticketState (va_Pc [.ref m0, .int a1] (PW D [(cI, .int)] sz (W_X5 cI m0 m1 m2 m3 m4 m5 m6 m7 m8 m9 m10 m11 mr mc me mw mh mn mu ms mt md mz mi mk mo mj ml))) (Q_X5_ticketState D cI m0 m1 m2 m3 m4 m5 m6 m7 m8 m9 m10 m11 mr mc me mw mh mn mu ms mt md mz mi mk mo mj ml a1 (va_A (W_X5 cI m0 m1 m2 m3 m4 m5 m6 m7 m8 m9 m10 m11 mr mc me mw mh mn mu ms mt md mz mi mk mo mj ml) sz)) 0 0 (va_A (W_X5 cI m0 m1 m2 m3 m4 m5 m6 m7 m8 m9 m10 m11 mr mc me mw mh mn mu ms mt md mz mi mk mo mj ml) sz) := by
  refine Met.ofW (cc := cX5_ticketState) (maxL := 2) (ret := (some .int)) (by decide) rfl ?_
  intro p e s m args below meth c s₁ B hml hv
  obtain ⟨rfl, hsz, hP, hK, hD0, hN⟩ := hv
  have hx := B.exec
  have hb := B.bytes
  have hr := B.returns
  have hts := atoms_spec (ws := wsX5_ticketState) B.pre
  have hown : s.vm.findClass RX5 = some m.cls := findClass_of_methodNamed B.named
  have hlocks := B.notSynchronized
  subst hsz
  have hD := hD0.self (sz := s.heap.size)
  generalize hAe : va_A (W_X5 cI m0 m1 m2 m3 m4 m5 m6 m7 m8 m9 m10 m11 mr mc me mw mh mn mu ms mt md mz mi mk mo mj ml) s.heap.size = A at hD ⊢
  have hA : ∀ q : Nat, s.heap.size ≤ q → A q := fun q h => by rw [← hAe]; exact Or.inr h
  have hS : va_S A s.heap s.heap [] := va_S.rf
  have hl := lv_entry ([.ref m0, .int a1]) (n := 2) (Nat.le_of_ble_eq_true rfl)
  rw [lg_entry_eq]
  generalize (lg_sl ([.ref m0, .int a1]) ++ List.replicate (2 - (lg_sl ([.ref m0, .int a1])).length) Slot.unset).toArray = ls at hl ⊢
  have hl : lv_has ls 2 [(0, .ref m0), (1, .int a1)] := hl
  have he := f_X5_ticketState.eq_1 mc mz a1
  replace hp := Eq.mp (p_X5_ticketState.eq_1 ..) hp
  refine lv_aload_n hx hb dX5_ticketState_0 rfl (lv_at hl 0 rfl) ?_
  refine lv_iconst (v := 0) hx hb dX5_ticketState_1 (by decide) ?_
  refine va_put (D := D) (ci := 5) (v := .int 0) (ty := .int) (C := RX5) (T := TX5) (N := 16) hx hb hts (by decide +kernel) tyX5 tyX5_ok nmX5 hown hK hP hD hS 0 rfl rfl 15 (by decide) (hts (.fieldLink RX5 43 "AlarmgroveModel" "thrown" "I") (by decide +kernel)) (fun _ h9 => h9) rfl (by decide +kernel) rfl rfl (Nat.le_of_ble_eq_true rfl) dX5_ticketState_2 (fun H locs hP hD hS => ?_)
  have hP : va_P D vwCl (W_X5 cI m0 m1 m2 m3 m4 m5 m6 m7 m8 m9 m10 m11 mr mc me mw 0 mn mu ms mt md mz mi mk mo mj ml) H := hP
  have hD : va_D A (W_X5 cI m0 m1 m2 m3 m4 m5 m6 m7 m8 m9 m10 m11 mr mc me mw 0 mn mu ms mt md mz mi mk mo mj ml) := hD
  refine lv_aload_n hx hb dX5_ticketState_5 rfl (lv_at hl 0 rfl) ?_
  refine lv_iload_n hx hb dX5_ticketState_6 rfl (lv_at hl 1 rfl) ?_
  refine k_calli (S := Unit) (wc := (W_X5 cI m0 m1 m2 m3 m4 m5 m6 m7 m8 m9 m10 m11 mr mc me mw 0 mn mu ms mt md mz mi mk mo mj ml)) (wr := ([] : va_W)) (w1 := fun u => (W_X5 cI m0 m1 m2 m3 m4 m5 m6 m7 m8 m9 m10 m11 mr mc me mw 0 mn mu ms mt md mz mi mk mo mj ml)) (fun u => (W_X5 cI m0 m1 m2 m3 m4 m5 m6 m7 m8 m9 m10 m11 mr mc me mw 0 mn mu ms mt md mz mi mk mo mj ml)) hP hK hD hN hS hA [0, 1, 2, 3, 4, 5, 6, 7, 8, 9, 10, 11] [] rfl rfl (by decide) (by decide) (by decide) [0, 1, 2, 3, 4, 5, 6, 7, 8, 9, 10, 11] (by decide) (fun _ => rfl) (fun hg => va_runV (As := [.int a1]) (rest := []) ⟨hx, hb, hml, hown, hts⟩ (c_X5_isTicket l D cI m0 m1 m2 m3 m4 m5 m6 m7 m8 m9 m10 m11 mr mc me mw (0 : Int32) mn mu ms mt md mz mi mk mo mj ml _ a1) (cwV 1 hts gX5_ticketState_X5_isTicket rfl rfl rfl (by decide +kernel) ⟨Nat.le_of_ble_eq_true rfl, Nat.le_of_ble_eq_true rfl⟩) ⟨PW.blind, va_recv hK hP (ci := 5) (q0 := 0) rfl rfl, fun U hU hW => ⟨rfl, hg U hU hW⟩⟩ rfl rfl hl.1 rfl (lv_room (Nat.le_of_ble_eq_true rfl)) dX5_ticketState_7 ⟨Nat.le_of_ble_eq_true rfl, Nat.le_of_ble_eq_true rfl⟩) (fun r1 u H locs hw hP hD hS => ?_)
  obtain ⟨hw, hb1⟩ := hw
  subst hw
  obtain ⟨j2, hJ2⟩ : ∃ z : Int32, z = (if (f_X5_isTicket mc a1) = 0 then (0 : Int32) else (mz (a1).toNatClampNeg)) := ⟨_, rfl⟩
  rw [← hJ2] at he
  try dsimp only at he
  have hpJ2 := hp.1
  replace hp := hp.2 _  hJ2.symm
  have kont2 : ∀ (H : Heap) (locs : List Loc), va_P D vwCl (W_X5 cI m0 m1 m2 m3 m4 m5 m6 m7 m8 m9 m10 m11 mr mc me mw 0 mn mu ms mt md mz mi mk mo mj ml) H → va_D A (W_X5 cI m0 m1 m2 m3 m4 m5 m6 m7 m8 m9 m10 m11 mr mc me mw 0 mn mu ms mt md mz mi mk mo mj ml) → va_S A s.heap H locs → ∀ ls : Array Slot, lv_has ls 2 [] → W p l e (headSpec wsX5_ticketState rm_X5_ticketState).room s m ([.ref m0, .int a1] : List Value).toArray below meth c H locs 0 0 (MQ below (Q_X5_ticketState D cI m0 m1 m2 m3 m4 m5 m6 m7 m8 m9 m10 m11 mr mc me mw mh mn mu ms mt md mz mi mk mo mj ml a1 A) ([.ref m0, .int a1] : List Value).toArray s 0 0 A) (F0 m 23 ls [.int j2]) := by
    intro H locs hP hD hS ls hl
    exact W.iret (v := j2) hx hb hr (fun t ht hW => ⟨⟨j2, 0, rfl, he, by rw [ht]; exact hP, va_K.moved hW.alike hK, hD⟩, hS.F ht⟩) hS.2.2 dX5_ticketState_23
  replace he := hJ2
  replace hp := hpJ2
  refine lv_if_eq (tgt := 22) hx hb dX5_ticketState_10 (by decide) (fun c3 => ?_) (fun c3 => ?_)
  · replace hp := hp.1 c3
    replace he := he.trans (if_pos c3)
    refine lv_iconst (v := 0) hx hb dX5_ticketState_22 (by decide) ?_
    subst he
    exact kont2 _ _ hP hD hS _ (lv_sub hl [] rfl)
  · replace hp := hp.2 c3
    replace he := he.trans (if_neg c3)
    refine lv_aload_n hx hb dX5_ticketState_13 rfl (lv_at hl 0 rfl) ?_
    refine va_get (D := D) (ci := 5) (v := .ref m6) (C := RX5) (T := TX5) (N := 16) hx hb hts (by decide +kernel) hown hK hP 0 rfl rfl 6 (by decide) (hts (.fieldLink RX5 25 "AlarmgroveModel" "states" "[I") (by decide +kernel)) (fun _ h9 => h9) rfl dX5_ticketState_14 ?_
    refine lv_iload_n hx hb dX5_ticketState_17 rfl (lv_at hl 1 rfl) ?_
    have h4 := hp.1
    replace hp := hp.2
    refine va_iald hx hb hK hP 6 0 rfl rfl h4 dX5_ticketState_18 ?_
    refine lv_goto (tgt := 23) hx hb dX5_ticketState_19 (by decide) ?_
    subst he
    exact kont2 _ _ hP hD hS _ (lv_sub hl [] rfl)
abbrev rm_X5_ticketSize : Room := { frames := 1, cells := 0, slots := 0, locals := 22 }
abbrev Q_X5_ticketSize (D : va_G) (cI : ClassId) (m0 m1 m2 m3 m4 m5 m6 m7 m8 m9 m10 m11 : Nat) (mr : Int32) (mc : Int32) (me : Int32) (mw : Int32) (mh : Int32) (mn : AA) (mu : AA) (ms : AA) (mt : AA) (md : AA) (mz : AA) (mi : AA) (mk : AA) (mo : AA) (mj : AA) (ml : AA) (a1 : Int32) (A : Nat → Prop) : Array Value → State → Outcome → State → Prop := va_Qi (S := Int32) (fun r u => f_X5_ticketSize mc md a1 = (r, u)) (fun u t => QW D [(cI, .int)] A (W_X5 cI m0 m1 m2 m3 m4 m5 m6 m7 m8 m9 m10 m11 mr mc me mw u mn mu ms mt md mz mi mk mo mj ml) t) A
set_option maxHeartbeats 4000000 in
set_option maxRecDepth 100000 in
theorem c_X5_ticketSize (l : Launch)  (D : va_G) (cI : ClassId) (m0 m1 m2 m3 m4 m5 m6 m7 m8 m9 m10 m11 : Nat) (mr : Int32) (mc : Int32) (me : Int32) (mw : Int32) (mh : Int32) (mn : AA) (mu : AA) (ms : AA) (mt : AA) (md : AA) (mz : AA) (mi : AA) (mk : AA) (mo : AA) (mj : AA) (ml : AA) (sz : Nat) (a1 : Int32) (hp : p_X5_ticketSize mc md a1) : Met l yX5_ticketSize wsX5_ticketSize rm_X5_ticketSize (va_Pc [.ref m0, .int a1] (PW D [(cI, .int)] sz (W_X5 cI m0 m1 m2 m3 m4 m5 m6 m7 m8 m9 m10 m11 mr mc me mw mh mn mu ms mt md mz mi mk mo mj ml))) (Q_X5_ticketSize D cI m0 m1 m2 m3 m4 m5 m6 m7 m8 m9 m10 m11 mr mc me mw mh mn mu ms mt md mz mi mk mo mj ml a1 (va_A (W_X5 cI m0 m1 m2 m3 m4 m5 m6 m7 m8 m9 m10 m11 mr mc me mw mh mn mu ms mt md mz mi mk mo mj ml) sz)) 0 0 (va_A (W_X5 cI m0 m1 m2 m3 m4 m5 m6 m7 m8 m9 m10 m11 mr mc me mw mh mn mu ms mt md mz mi mk mo mj ml) sz) := by
  refine Met.ofW (cc := cX5_ticketSize) (maxL := 2) (ret := (some .int)) (by decide) rfl ?_
  intro p e s m args below meth c s₁ B hml hv
  obtain ⟨rfl, hsz, hP, hK, hD0, hN⟩ := hv
  have hx := B.exec
  have hb := B.bytes
  have hr := B.returns
  have hts := atoms_spec (ws := wsX5_ticketSize) B.pre
  have hown : s.vm.findClass RX5 = some m.cls := findClass_of_methodNamed B.named
  have hlocks := B.notSynchronized
  subst hsz
  have hD := hD0.self (sz := s.heap.size)
  generalize hAe : va_A (W_X5 cI m0 m1 m2 m3 m4 m5 m6 m7 m8 m9 m10 m11 mr mc me mw mh mn mu ms mt md mz mi mk mo mj ml) s.heap.size = A at hD ⊢
  have hA : ∀ q : Nat, s.heap.size ≤ q → A q := fun q h => by rw [← hAe]; exact Or.inr h
  have hS : va_S A s.heap s.heap [] := va_S.rf
  have hl := lv_entry ([.ref m0, .int a1]) (n := 2) (Nat.le_of_ble_eq_true rfl)
  rw [lg_entry_eq]
  generalize (lg_sl ([.ref m0, .int a1]) ++ List.replicate (2 - (lg_sl ([.ref m0, .int a1])).length) Slot.unset).toArray = ls at hl ⊢
  have hl : lv_has ls 2 [(0, .ref m0), (1, .int a1)] := hl
  have he := f_X5_ticketSize.eq_1 mc md a1
  replace hp := Eq.mp (p_X5_ticketSize.eq_1 ..) hp
  refine lv_aload_n hx hb dX5_ticketSize_0 rfl (lv_at hl 0 rfl) ?_
  refine lv_iconst (v := 0) hx hb dX5_ticketSize_1 (by decide) ?_
  refine va_put (D := D) (ci := 5) (v := .int 0) (ty := .int) (C := RX5) (T := TX5) (N := 16) hx hb hts (by decide +kernel) tyX5 tyX5_ok nmX5 hown hK hP hD hS 0 rfl rfl 15 (by decide) (hts (.fieldLink RX5 43 "AlarmgroveModel" "thrown" "I") (by decide +kernel)) (fun _ h9 => h9) rfl (by decide +kernel) rfl rfl (Nat.le_of_ble_eq_true rfl) dX5_ticketSize_2 (fun H locs hP hD hS => ?_)
  have hP : va_P D vwCl (W_X5 cI m0 m1 m2 m3 m4 m5 m6 m7 m8 m9 m10 m11 mr mc me mw 0 mn mu ms mt md mz mi mk mo mj ml) H := hP
  have hD : va_D A (W_X5 cI m0 m1 m2 m3 m4 m5 m6 m7 m8 m9 m10 m11 mr mc me mw 0 mn mu ms mt md mz mi mk mo mj ml) := hD
  refine lv_aload_n hx hb dX5_ticketSize_5 rfl (lv_at hl 0 rfl) ?_
  refine lv_iload_n hx hb dX5_ticketSize_6 rfl (lv_at hl 1 rfl) ?_
  refine k_calli (S := Unit) (wc := (W_X5 cI m0 m1 m2 m3 m4 m5 m6 m7 m8 m9 m10 m11 mr mc me mw 0 mn mu ms mt md mz mi mk mo mj ml)) (wr := ([] : va_W)) (w1 := fun u => (W_X5 cI m0 m1 m2 m3 m4 m5 m6 m7 m8 m9 m10 m11 mr mc me mw 0 mn mu ms mt md mz mi mk mo mj ml)) (fun u => (W_X5 cI m0 m1 m2 m3 m4 m5 m6 m7 m8 m9 m10 m11 mr mc me mw 0 mn mu ms mt md mz mi mk mo mj ml)) hP hK hD hN hS hA [0, 1, 2, 3, 4, 5, 6, 7, 8, 9, 10, 11] [] rfl rfl (by decide) (by decide) (by decide) [0, 1, 2, 3, 4, 5, 6, 7, 8, 9, 10, 11] (by decide) (fun _ => rfl) (fun hg => va_runV (As := [.int a1]) (rest := []) ⟨hx, hb, hml, hown, hts⟩ (c_X5_isTicket l D cI m0 m1 m2 m3 m4 m5 m6 m7 m8 m9 m10 m11 mr mc me mw (0 : Int32) mn mu ms mt md mz mi mk mo mj ml _ a1) (cwV 1 hts gX5_ticketSize_X5_isTicket rfl rfl rfl (by decide +kernel) ⟨Nat.le_of_ble_eq_true rfl, Nat.le_of_ble_eq_true rfl⟩) ⟨PW.blind, va_recv hK hP (ci := 5) (q0 := 0) rfl rfl, fun U hU hW => ⟨rfl, hg U hU hW⟩⟩ rfl rfl hl.1 rfl (lv_room (Nat.le_of_ble_eq_true rfl)) dX5_ticketSize_7 ⟨Nat.le_of_ble_eq_true rfl, Nat.le_of_ble_eq_true rfl⟩) (fun r1 u H locs hw hP hD hS => ?_)
  obtain ⟨hw, hb1⟩ := hw
  subst hw
  obtain ⟨j2, hJ2⟩ : ∃ z : Int32, z = (if (f_X5_isTicket mc a1) = 0 then (0 : Int32) else (f_X5_count (md (a1).toNatClampNeg))) := ⟨_, rfl⟩
  rw [← hJ2] at he
  try dsimp only at he
  have hpJ2 := hp.1
  replace hp := hp.2 _  hJ2.symm
  have kont2 : ∀ (H : Heap) (locs : List Loc), va_P D vwCl (W_X5 cI m0 m1 m2 m3 m4 m5 m6 m7 m8 m9 m10 m11 mr mc me mw 0 mn mu ms mt md mz mi mk mo mj ml) H → va_D A (W_X5 cI m0 m1 m2 m3 m4 m5 m6 m7 m8 m9 m10 m11 mr mc me mw 0 mn mu ms mt md mz mi mk mo mj ml) → va_S A s.heap H locs → ∀ ls : Array Slot, lv_has ls 2 [] → W p l e (headSpec wsX5_ticketSize rm_X5_ticketSize).room s m ([.ref m0, .int a1] : List Value).toArray below meth c H locs 0 0 (MQ below (Q_X5_ticketSize D cI m0 m1 m2 m3 m4 m5 m6 m7 m8 m9 m10 m11 mr mc me mw mh mn mu ms mt md mz mi mk mo mj ml a1 A) ([.ref m0, .int a1] : List Value).toArray s 0 0 A) (F0 m 26 ls [.int j2]) := by
    intro H locs hP hD hS ls hl
    exact W.iret (v := j2) hx hb hr (fun t ht hW => ⟨⟨j2, 0, rfl, he, by rw [ht]; exact hP, va_K.moved hW.alike hK, hD⟩, hS.F ht⟩) hS.2.2 dX5_ticketSize_26
  replace he := hJ2
  replace hp := hpJ2
  refine lv_if_eq (tgt := 25) hx hb dX5_ticketSize_10 (by decide) (fun c3 => ?_) (fun c3 => ?_)
  · replace hp := hp.1 c3
    replace he := he.trans (if_pos c3)
    refine lv_iconst (v := 0) hx hb dX5_ticketSize_25 (by decide) ?_
    subst he
    exact kont2 _ _ hP hD hS _ (lv_sub hl [] rfl)
  · replace hp := hp.2 c3
    replace he := he.trans (if_neg c3)
    refine lv_aload_n hx hb dX5_ticketSize_13 rfl (lv_at hl 0 rfl) ?_
    refine va_get (D := D) (ci := 5) (v := .ref m5) (C := RX5) (T := TX5) (N := 16) hx hb hts (by decide +kernel) hown hK hP 0 rfl rfl 5 (by decide) (hts (.fieldLink RX5 22 "AlarmgroveModel" "nodes" "[I") (by decide +kernel)) (fun _ h9 => h9) rfl dX5_ticketSize_14 ?_
    refine lv_iload_n hx hb dX5_ticketSize_17 rfl (lv_at hl 1 rfl) ?_
    have h4 := hp.1
    replace hp := hp.2
    refine va_iald hx hb hK hP 5 0 rfl rfl h4 dX5_ticketSize_18 ?_
    have hq5 := hp.1
    replace hp := hp.2
    refine k_calli (S := Unit) (wc := ([] : va_W)) (wr := (W_X5 cI m0 m1 m2 m3 m4 m5 m6 m7 m8 m9 m10 m11 mr mc me mw 0 mn mu ms mt md mz mi mk mo mj ml)) (w1 := fun u => ([] : va_W)) (fun u => (W_X5 cI m0 m1 m2 m3 m4 m5 m6 m7 m8 m9 m10 m11 mr mc me mw 0 mn mu ms mt md mz mi mk mo mj ml)) hP hK hD hN hS hA [] [0, 1, 2, 3, 4, 5, 6, 7, 8, 9, 10, 11] rfl rfl (by decide) (by decide) (by decide) [0, 1, 2, 3, 4, 5, 6, 7, 8, 9, 10, 11] (by decide) (fun _ => rfl) (fun hg => va_runS (As := [.int (md (a1).toNatClampNeg)]) (rest := []) ⟨hx, hb, hml, hown, hts⟩ (c_X5_count l D cI _ (md (a1).toNatClampNeg) hq5) (va_cwS 1 hts gX5_ticketSize_X5_count rfl rfl rfl (by decide +kernel) ⟨Nat.le_of_ble_eq_true rfl, Nat.le_of_ble_eq_true rfl⟩) ⟨PW.blind, fun U hU hW => ⟨rfl, hg U hU hW⟩⟩ rfl rfl hl.1 rfl (lv_room (Nat.le_of_ble_eq_true rfl)) dX5_ticketSize_19 ⟨Nat.le_of_ble_eq_true rfl, Nat.le_of_ble_eq_true rfl⟩) (fun r5 u H locs hw hP hD hS => ?_)
    subst hw
    refine lv_goto (tgt := 26) hx hb dX5_ticketSize_22 (by decide) ?_
    subst he
    exact kont2 _ _ hP hD hS _ (lv_sub hl [] rfl)
abbrev rm_X5_mergedInto : Room := { frames := 1, cells := 0, slots := 0, locals := 21 }
abbrev Q_X5_mergedInto (D : va_G) (cI : ClassId) (m0 m1 m2 m3 m4 m5 m6 m7 m8 m9 m10 m11 : Nat) (mr : Int32) (mc : Int32) (me : Int32) (mw : Int32) (mh : Int32) (mn : AA) (mu : AA) (ms : AA) (mt : AA) (md : AA) (mz : AA) (mi : AA) (mk : AA) (mo : AA) (mj : AA) (ml : AA) (a1 : Int32) (A : Nat → Prop) : Array Value → State → Outcome → State → Prop := va_Qi (S := Int32) (fun r u => f_X5_mergedInto mc mz mi a1 = (r, u)) (fun u t => QW D [(cI, .int)] A (W_X5 cI m0 m1 m2 m3 m4 m5 m6 m7 m8 m9 m10 m11 mr mc me mw u mn mu ms mt md mz mi mk mo mj ml) t) A
set_option maxHeartbeats 4000000 in
set_option maxRecDepth 100000 in
theorem c_X5_mergedInto (l : Launch)  (D : va_G) (cI : ClassId) (m0 m1 m2 m3 m4 m5 m6 m7 m8 m9 m10 m11 : Nat) (mr : Int32) (mc : Int32) (me : Int32) (mw : Int32) (mh : Int32) (mn : AA) (mu : AA) (ms : AA) (mt : AA) (md : AA) (mz : AA) (mi : AA) (mk : AA) (mo : AA) (mj : AA) (ml : AA) (sz : Nat) (a1 : Int32) (hp : p_X5_mergedInto mc mz mi a1) : Met l yX5_mergedInto wsX5_mergedInto rm_X5_mergedInto (va_Pc [.ref m0, .int a1] (PW D [(cI, .int)] sz (W_X5 cI m0 m1 m2 m3 m4 m5 m6 m7 m8 m9 m10 m11 mr mc me mw mh mn mu ms mt md mz mi mk mo mj ml))) (Q_X5_mergedInto D cI m0 m1 m2 m3 m4 m5 m6 m7 m8 m9 m10 m11 mr mc me mw mh mn mu ms mt md mz mi mk mo mj ml a1 (va_A (W_X5 cI m0 m1 m2 m3 m4 m5 m6 m7 m8 m9 m10 m11 mr mc me mw mh mn mu ms mt md mz mi mk mo mj ml) sz)) 0 0 (va_A (W_X5 cI m0 m1 m2 m3 m4 m5 m6 m7 m8 m9 m10 m11 mr mc me mw mh mn mu ms mt md mz mi mk mo mj ml) sz) := by
  refine Met.ofW (cc := cX5_mergedInto) (maxL := 2) (ret := (some .int)) (by decide) rfl ?_
  intro p e s m args below meth c s₁ B hml hv
  obtain ⟨rfl, hsz, hP, hK, hD0, hN⟩ := hv
  have hx := B.exec
  have hb := B.bytes
  have hr := B.returns
  have hts := atoms_spec (ws := wsX5_mergedInto) B.pre
  have hown : s.vm.findClass RX5 = some m.cls := findClass_of_methodNamed B.named
  have hlocks := B.notSynchronized
  subst hsz
  have hD := hD0.self (sz := s.heap.size)
  generalize hAe : va_A (W_X5 cI m0 m1 m2 m3 m4 m5 m6 m7 m8 m9 m10 m11 mr mc me mw mh mn mu ms mt md mz mi mk mo mj ml) s.heap.size = A at hD ⊢
  have hA : ∀ q : Nat, s.heap.size ≤ q → A q := fun q h => by rw [← hAe]; exact Or.inr h
  have hS : va_S A s.heap s.heap [] := va_S.rf
  have hl := lv_entry ([.ref m0, .int a1]) (n := 2) (Nat.le_of_ble_eq_true rfl)
  rw [lg_entry_eq]
  generalize (lg_sl ([.ref m0, .int a1]) ++ List.replicate (2 - (lg_sl ([.ref m0, .int a1])).length) Slot.unset).toArray = ls at hl ⊢
  have hl : lv_has ls 2 [(0, .ref m0), (1, .int a1)] := hl
  have he := f_X5_mergedInto.eq_1 mc mz mi a1
  replace hp := Eq.mp (p_X5_mergedInto.eq_1 ..) hp
  refine lv_aload_n hx hb dX5_mergedInto_0 rfl (lv_at hl 0 rfl) ?_
  refine lv_iconst (v := 0) hx hb dX5_mergedInto_1 (by decide) ?_
  refine va_put (D := D) (ci := 5) (v := .int 0) (ty := .int) (C := RX5) (T := TX5) (N := 16) hx hb hts (by decide +kernel) tyX5 tyX5_ok nmX5 hown hK hP hD hS 0 rfl rfl 15 (by decide) (hts (.fieldLink RX5 43 "AlarmgroveModel" "thrown" "I") (by decide +kernel)) (fun _ h9 => h9) rfl (by decide +kernel) rfl rfl (Nat.le_of_ble_eq_true rfl) dX5_mergedInto_2 (fun H locs hP hD hS => ?_)
  have hP : va_P D vwCl (W_X5 cI m0 m1 m2 m3 m4 m5 m6 m7 m8 m9 m10 m11 mr mc me mw 0 mn mu ms mt md mz mi mk mo mj ml) H := hP
  have hD : va_D A (W_X5 cI m0 m1 m2 m3 m4 m5 m6 m7 m8 m9 m10 m11 mr mc me mw 0 mn mu ms mt md mz mi mk mo mj ml) := hD
  refine lv_aload_n hx hb dX5_mergedInto_5 rfl (lv_at hl 0 rfl) ?_
  refine lv_iload_n hx hb dX5_mergedInto_6 rfl (lv_at hl 1 rfl) ?_
  refine k_calli (S := Unit) (wc := (W_X5 cI m0 m1 m2 m3 m4 m5 m6 m7 m8 m9 m10 m11 mr mc me mw 0 mn mu ms mt md mz mi mk mo mj ml)) (wr := ([] : va_W)) (w1 := fun u => (W_X5 cI m0 m1 m2 m3 m4 m5 m6 m7 m8 m9 m10 m11 mr mc me mw 0 mn mu ms mt md mz mi mk mo mj ml)) (fun u => (W_X5 cI m0 m1 m2 m3 m4 m5 m6 m7 m8 m9 m10 m11 mr mc me mw 0 mn mu ms mt md mz mi mk mo mj ml)) hP hK hD hN hS hA [0, 1, 2, 3, 4, 5, 6, 7, 8, 9, 10, 11] [] rfl rfl (by decide) (by decide) (by decide) [0, 1, 2, 3, 4, 5, 6, 7, 8, 9, 10, 11] (by decide) (fun _ => rfl) (fun hg => va_runV (As := [.int a1]) (rest := []) ⟨hx, hb, hml, hown, hts⟩ (c_X5_isTicket l D cI m0 m1 m2 m3 m4 m5 m6 m7 m8 m9 m10 m11 mr mc me mw (0 : Int32) mn mu ms mt md mz mi mk mo mj ml _ a1) (cwV 1 hts gX5_mergedInto_X5_isTicket rfl rfl rfl (by decide +kernel) ⟨Nat.le_of_ble_eq_true rfl, Nat.le_of_ble_eq_true rfl⟩) ⟨PW.blind, va_recv hK hP (ci := 5) (q0 := 0) rfl rfl, fun U hU hW => ⟨rfl, hg U hU hW⟩⟩ rfl rfl hl.1 rfl (lv_room (Nat.le_of_ble_eq_true rfl)) dX5_mergedInto_7 ⟨Nat.le_of_ble_eq_true rfl, Nat.le_of_ble_eq_true rfl⟩) (fun r1 u H locs hw hP hD hS => ?_)
  obtain ⟨hw, hb1⟩ := hw
  subst hw
  obtain ⟨j2, hJ2⟩ : ∃ z : Int32, z = (if (f_X5_isTicket mc a1) = 0 then ((-1) : Int32) else (if (mz (a1).toNatClampNeg) = 3 then (mi (a1).toNatClampNeg) else ((-1) : Int32))) := ⟨_, rfl⟩
  rw [← hJ2] at he
  try dsimp only at he
  have hpJ2 := hp.1
  replace hp := hp.2 _  hJ2.symm
  have kont2 : ∀ (H : Heap) (locs : List Loc), va_P D vwCl (W_X5 cI m0 m1 m2 m3 m4 m5 m6 m7 m8 m9 m10 m11 mr mc me mw 0 mn mu ms mt md mz mi mk mo mj ml) H → va_D A (W_X5 cI m0 m1 m2 m3 m4 m5 m6 m7 m8 m9 m10 m11 mr mc me mw 0 mn mu ms mt md mz mi mk mo mj ml) → va_S A s.heap H locs → ∀ ls : Array Slot, lv_has ls 2 [] → W p l e (headSpec wsX5_mergedInto rm_X5_mergedInto).room s m ([.ref m0, .int a1] : List Value).toArray below meth c H locs 0 0 (MQ below (Q_X5_mergedInto D cI m0 m1 m2 m3 m4 m5 m6 m7 m8 m9 m10 m11 mr mc me mw mh mn mu ms mt md mz mi mk mo mj ml a1 A) ([.ref m0, .int a1] : List Value).toArray s 0 0 A) (F0 m 33 ls [.int j2]) := by
    intro H locs hP hD hS ls hl
    exact W.iret (v := j2) hx hb hr (fun t ht hW => ⟨⟨j2, 0, rfl, he, by rw [ht]; exact hP, va_K.moved hW.alike hK, hD⟩, hS.F ht⟩) hS.2.2 dX5_mergedInto_33
  replace he := hJ2
  replace hp := hpJ2
  refine lv_if_eq (tgt := 32) hx hb dX5_mergedInto_10 (by decide) (fun c3 => ?_) (fun c3 => ?_)
  · replace hp := hp.1 c3
    replace he := he.trans (if_pos c3)
    refine lv_iconst (v := (-1)) hx hb dX5_mergedInto_32 (by decide) ?_
    subst he
    exact kont2 _ _ hP hD hS _ (lv_sub hl [] rfl)
  · replace hp := hp.2 c3
    replace he := he.trans (if_neg c3)
    refine lv_aload_n hx hb dX5_mergedInto_13 rfl (lv_at hl 0 rfl) ?_
    refine va_get (D := D) (ci := 5) (v := .ref m6) (C := RX5) (T := TX5) (N := 16) hx hb hts (by decide +kernel) hown hK hP 0 rfl rfl 6 (by decide) (hts (.fieldLink RX5 25 "AlarmgroveModel" "states" "[I") (by decide +kernel)) (fun _ h9 => h9) rfl dX5_mergedInto_14 ?_
    refine lv_iload_n hx hb dX5_mergedInto_17 rfl (lv_at hl 1 rfl) ?_
    have h4 := hp.1
    replace hp := hp.2
    refine va_iald hx hb hK hP 6 0 rfl rfl h4 dX5_mergedInto_18 ?_
    refine lv_iconst (v := 3) hx hb dX5_mergedInto_19 (by decide) ?_
    refine lv_icmp_ne (tgt := 32) hx hb dX5_mergedInto_20 (by decide) (fun c5 => ?_) (fun c5 => ?_)
    · replace hp := hp.2 c5
      replace he := he.trans (if_neg c5)
      refine lv_iconst (v := (-1)) hx hb dX5_mergedInto_32 (by decide) ?_
      subst he
      exact kont2 _ _ hP hD hS _ (lv_sub hl [] rfl)
    · replace hp := hp.1 c5
      replace he := he.trans (if_pos c5)
      refine lv_aload_n hx hb dX5_mergedInto_23 rfl (lv_at hl 0 rfl) ?_
      refine va_get (D := D) (ci := 5) (v := .ref m7) (C := RX5) (T := TX5) (N := 16) hx hb hts (by decide +kernel) hown hK hP 0 rfl rfl 7 (by decide) (hts (.fieldLink RX5 28 "AlarmgroveModel" "into" "[I") (by decide +kernel)) (fun _ h9 => h9) rfl dX5_mergedInto_24 ?_
      refine lv_iload_n hx hb dX5_mergedInto_27 rfl (lv_at hl 1 rfl) ?_
      have h6 := hp.1
      replace hp := hp.2
      refine va_iald hx hb hK hP 7 0 rfl rfl h6 dX5_mergedInto_28 ?_
      refine lv_goto (tgt := 33) hx hb dX5_mergedInto_29 (by decide) ?_
      subst he
      exact kont2 _ _ hP hD hS _ (lv_sub hl [] rfl)
abbrev rm_X5_plausible : Room := { frames := 1, cells := 0, slots := 0, locals := 21 }
abbrev Q_X5_plausible (D : va_G) (cI : ClassId) (m0 m1 m2 m3 m4 m5 m6 m7 m8 m9 m10 m11 : Nat) (mr : Int32) (mc : Int32) (me : Int32) (mw : Int32) (mh : Int32) (mn : AA) (mu : AA) (ms : AA) (mt : AA) (md : AA) (mz : AA) (mi : AA) (mk : AA) (mo : AA) (mj : AA) (ml : AA) (a1 : Int32) (A : Nat → Prop) : Array Value → State → Outcome → State → Prop := va_Qi (S := Unit) (fun r u => f_X5_plausible mr mn a1 = r ∧ (r = 0 ∨ r = 1)) (fun u t => QW D [(cI, .int)] A (W_X5 cI m0 m1 m2 m3 m4 m5 m6 m7 m8 m9 m10 m11 mr mc me mw mh mn mu ms mt md mz mi mk mo mj ml) t) A
set_option maxHeartbeats 4000000 in
set_option maxRecDepth 100000 in
theorem c_X5_plausible (l : Launch)  (D : va_G) (cI : ClassId) (m0 m1 m2 m3 m4 m5 m6 m7 m8 m9 m10 m11 : Nat) (mr : Int32) (mc : Int32) (me : Int32) (mw : Int32) (mh : Int32) (mn : AA) (mu : AA) (ms : AA) (mt : AA) (md : AA) (mz : AA) (mi : AA) (mk : AA) (mo : AA) (mj : AA) (ml : AA) (sz : Nat) (a1 : Int32) (hp : p_X5_plausible mr mn a1) : Met l yX5_plausible wsX5_plausible rm_X5_plausible (va_Pc [.ref m0, .int a1] (PW D [(cI, .int)] sz (W_X5 cI m0 m1 m2 m3 m4 m5 m6 m7 m8 m9 m10 m11 mr mc me mw mh mn mu ms mt md mz mi mk mo mj ml))) (Q_X5_plausible D cI m0 m1 m2 m3 m4 m5 m6 m7 m8 m9 m10 m11 mr mc me mw mh mn mu ms mt md mz mi mk mo mj ml a1 (va_A (W_X5 cI m0 m1 m2 m3 m4 m5 m6 m7 m8 m9 m10 m11 mr mc me mw mh mn mu ms mt md mz mi mk mo mj ml) sz)) 0 0 (va_A (W_X5 cI m0 m1 m2 m3 m4 m5 m6 m7 m8 m9 m10 m11 mr mc me mw mh mn mu ms mt md mz mi mk mo mj ml) sz) := by
  refine Met.ofW (cc := cX5_plausible) (maxL := 4) (ret := (some .boolean)) (by decide) rfl ?_
  intro p e s m args below meth c s₁ B hml hv
  obtain ⟨rfl, hsz, hP, hK, hD0, hN⟩ := hv
  have hx := B.exec
  have hb := B.bytes
  have hr := B.returns
  have hts := atoms_spec (ws := wsX5_plausible) B.pre
  have hown : s.vm.findClass RX5 = some m.cls := findClass_of_methodNamed B.named
  have hlocks := B.notSynchronized
  subst hsz
  have hD := hD0.self (sz := s.heap.size)
  generalize hAe : va_A (W_X5 cI m0 m1 m2 m3 m4 m5 m6 m7 m8 m9 m10 m11 mr mc me mw mh mn mu ms mt md mz mi mk mo mj ml) s.heap.size = A at hD ⊢
  have hA : ∀ q : Nat, s.heap.size ≤ q → A q := fun q h => by rw [← hAe]; exact Or.inr h
  have hS : va_S A s.heap s.heap [] := va_S.rf
  have hl := lv_entry ([.ref m0, .int a1]) (n := 4) (Nat.le_of_ble_eq_true rfl)
  rw [lg_entry_eq]
  generalize (lg_sl ([.ref m0, .int a1]) ++ List.replicate (4 - (lg_sl ([.ref m0, .int a1])).length) Slot.unset).toArray = ls at hl ⊢
  have hl : lv_has ls 4 [(0, .ref m0), (1, .int a1)] := hl
  have he := f_X5_plausible.eq_1 mr mn a1
  replace hp := Eq.mp (p_X5_plausible.eq_1 ..) hp
  refine lv_iconst (v := 0) hx hb dX5_plausible_0 (by decide) ?_
  refine lv_istore_n (lv' := [(2, .int 0), (0, .ref m0), (1, .int a1)]) hx hb dX5_plausible_1 rfl hl (by decide) rfl (fun ls hl => ?_)
  refine lv_iconst (v := 0) hx hb dX5_plausible_2 (by decide) ?_
  refine lv_istore_n (lv' := [(3, .int 0), (2, .int 0), (0, .ref m0), (1, .int a1)]) hx hb dX5_plausible_3 rfl hl (by decide) rfl (fun ls hl => ?_)
  obtain ⟨⟨r1_v4_2, r1_v4_3⟩, hL1⟩ : ∃ z, z = f_X5_plausible_L4 mn a1 15 (0 : Int32) (0 : Int32) := ⟨_, rfl⟩
  rw [← hL1] at he
  try dsimp only at he
  have hpL1 := hp.1
  replace hp := hp.2 _ _ hL1.symm
  have kont1 : ∀ (x1_v4_2 : Int32) (x1_v4_3 : Int32), (r1_v4_2, r1_v4_3) = (x1_v4_2, x1_v4_3) → ∀ (H : Heap) (locs : List Loc), va_P D vwCl (W_X5 cI m0 m1 m2 m3 m4 m5 m6 m7 m8 m9 m10 m11 mr mc me mw mh mn mu ms mt md mz mi mk mo mj ml) H → va_D A (W_X5 cI m0 m1 m2 m3 m4 m5 m6 m7 m8 m9 m10 m11 mr mc me mw mh mn mu ms mt md mz mi mk mo mj ml) → va_S A s.heap H locs → ∀ ls : Array Slot, lv_has ls 4 [(2, .int x1_v4_2), (0, .ref m0), (1, .int a1)] → W p l e (headSpec wsX5_plausible rm_X5_plausible).room s m ([.ref m0, .int a1] : List Value).toArray below meth c H locs 0 0 (MQ below (Q_X5_plausible D cI m0 m1 m2 m3 m4 m5 m6 m7 m8 m9 m10 m11 mr mc me mw mh mn mu ms mt md mz mi mk mo mj ml a1 A) ([.ref m0, .int a1] : List Value).toArray s 0 0 A) (F0 m 39 ls []) := by
    intro x1_v4_2 x1_v4_3 hxe H locs hP hD hS ls hl
    simp only [Prod.mk.injEq] at hxe
    obtain ⟨rfl, rfl⟩ := hxe
    refine lv_aload_n hx hb dX5_plausible_39 rfl (lv_at hl 1 rfl) ?_
    refine va_get (D := D) (ci := 5) (v := .int mr) (C := RX5) (T := TX5) (N := 16) hx hb hts (by decide +kernel) hown hK hP 0 rfl rfl 2 (by decide) (hts (.fieldLink RX5 68 "AlarmgroveModel" "raised" "I") (by decide +kernel)) (fun _ h9 => h9) rfl dX5_plausible_40 ?_
    refine lv_iload_n hx hb dX5_plausible_43 rfl (lv_at hl 2 rfl) ?_
    refine k_calli (S := Unit) (wc := ([] : va_W)) (wr := (W_X5 cI m0 m1 m2 m3 m4 m5 m6 m7 m8 m9 m10 m11 mr mc me mw mh mn mu ms mt md mz mi mk mo mj ml)) (w1 := fun u => ([] : va_W)) (fun u => (W_X5 cI m0 m1 m2 m3 m4 m5 m6 m7 m8 m9 m10 m11 mr mc me mw mh mn mu ms mt md mz mi mk mo mj ml)) hP hK hD hN hS hA [] [0, 1, 2, 3, 4, 5, 6, 7, 8, 9, 10, 11] rfl rfl (by decide) (by decide) (by decide) [0, 1, 2, 3, 4, 5, 6, 7, 8, 9, 10, 11] (by decide) (fun _ => rfl) (fun hg => va_runS (As := [.int mr, .int a1]) (rest := []) ⟨hx, hb, hml, hown, hts⟩ (c_X5_has l D cI _ mr a1) (va_cwS 2 hts gX5_plausible_X5_has rfl rfl rfl (by decide +kernel) ⟨Nat.le_of_ble_eq_true rfl, Nat.le_of_ble_eq_true rfl⟩) ⟨PW.blind, fun U hU hW => ⟨rfl, hg U hU hW⟩⟩ rfl rfl hl.1 rfl (lv_room (Nat.le_of_ble_eq_true rfl)) dX5_plausible_44 ⟨Nat.le_of_ble_eq_true rfl, Nat.le_of_ble_eq_true rfl⟩) (fun r7 u H locs hw hP hD hS => ?_)
    obtain ⟨hw, hb7⟩ := hw
    subst hw
    obtain ⟨j8, hJ8⟩ : ∃ z : Int32, z = (if (f_X5_has mr a1) = 0 then (if r1_v4_2 = 0 then (0 : Int32) else (if (r1_v4_2 &&& mr) = r1_v4_2 then (1 : Int32) else (0 : Int32))) else (1 : Int32)) := ⟨_, rfl⟩
    rw [← hJ8] at he
    try dsimp only at he
    have hpJ8 := hp.1
    replace hp := hp.2 _  hJ8.symm
    have kont8 : (j8 = 0 ∨ j8 = 1) → ∀ (H : Heap) (locs : List Loc), va_P D vwCl (W_X5 cI m0 m1 m2 m3 m4 m5 m6 m7 m8 m9 m10 m11 mr mc me mw mh mn mu ms mt md mz mi mk mo mj ml) H → va_D A (W_X5 cI m0 m1 m2 m3 m4 m5 m6 m7 m8 m9 m10 m11 mr mc me mw mh mn mu ms mt md mz mi mk mo mj ml) → va_S A s.heap H locs → ∀ ls : Array Slot, lv_has ls 4 [] → W p l e (headSpec wsX5_plausible rm_X5_plausible).room s m ([.ref m0, .int a1] : List Value).toArray below meth c H locs 0 0 (MQ below (Q_X5_plausible D cI m0 m1 m2 m3 m4 m5 m6 m7 m8 m9 m10 m11 mr mc me mw mh mn mu ms mt md mz mi mk mo mj ml a1 A) ([.ref m0, .int a1] : List Value).toArray s 0 0 A) (F0 m 69 ls [.int j8]) := by
      intro hb8 H locs hP hD hS ls hl
      exact W.zret (ty := .boolean) (v := j8) hx hb hr (by rcases hb8 with h9 | h9 <;> rw [h9] <;> rfl) (fun t ht hW => ⟨⟨j8, (), rfl, ⟨he, hb8⟩, by rw [ht]; exact hP, va_K.moved hW.alike hK, hD⟩, hS.F ht⟩) hS.2.2 dX5_plausible_69
    replace he := hJ8
    replace hp := hpJ8
    refine lv_if_ne (tgt := 64) hx hb dX5_plausible_47 (by decide) (fun c9 => ?_) (fun c9 => ?_)
    · replace hp := hp.2 c9
      replace he := he.trans (if_neg c9)
      refine lv_iconst (v := 1) hx hb dX5_plausible_64 (by decide) ?_
      refine lv_goto (tgt := 69) hx hb dX5_plausible_65 (by decide) ?_
      subst he
      exact kont8 (Or.inr rfl) _ _ hP hD hS _ (lv_sub hl [] rfl)
    · replace hp := hp.1 c9
      replace he := he.trans (if_pos c9)
      refine lv_iload_n hx hb dX5_plausible_50 rfl (lv_at hl 0 rfl) ?_
      refine lv_if_eq (tgt := 68) hx hb dX5_plausible_51 (by decide) (fun c10 => ?_) (fun c10 => ?_)
      · replace hp := hp.1 c10
        replace he := he.trans (if_pos c10)
        refine lv_iconst (v := 0) hx hb dX5_plausible_68 (by decide) ?_
        subst he
        exact kont8 (Or.inl rfl) _ _ hP hD hS _ (lv_sub hl [] rfl)
      · replace hp := hp.2 c10
        replace he := he.trans (if_neg c10)
        refine lv_iload_n hx hb dX5_plausible_54 rfl (lv_at hl 0 rfl) ?_
        refine lv_aload_n hx hb dX5_plausible_55 rfl (lv_at hl 1 rfl) ?_
        refine va_get (D := D) (ci := 5) (v := .int mr) (C := RX5) (T := TX5) (N := 16) hx hb hts (by decide +kernel) hown hK hP 0 rfl rfl 2 (by decide) (hts (.fieldLink RX5 68 "AlarmgroveModel" "raised" "I") (by decide +kernel)) (fun _ h9 => h9) rfl dX5_plausible_56 ?_
        refine lv_iand hx hb dX5_plausible_59 ?_
        refine lv_iload_n hx hb dX5_plausible_60 rfl (lv_at hl 0 rfl) ?_
        refine lv_icmp_ne (tgt := 68) hx hb dX5_plausible_61 (by decide) (fun c11 => ?_) (fun c11 => ?_)
        · replace hp := hp.2 c11
          replace he := he.trans (if_neg c11)
          refine lv_iconst (v := 0) hx hb dX5_plausible_68 (by decide) ?_
          subst he
          exact kont8 (Or.inl rfl) _ _ hP hD hS _ (lv_sub hl [] rfl)
        · replace hp := hp.1 c11
          replace he := he.trans (if_pos c11)
          refine lv_iconst (v := 1) hx hb dX5_plausible_64 (by decide) ?_
          refine lv_goto (tgt := 69) hx hb dX5_plausible_65 (by decide) ?_
          subst he
          exact kont8 (Or.inr rfl) _ _ hP hD hS _ (lv_sub hl [] rfl)
  have loop1 : ∀ (n : Nat) (v4_2 : Int32) (v4_3 : Int32), p_X5_plausible_L4 mn a1 n v4_2 v4_3 → (r1_v4_2, r1_v4_3) = f_X5_plausible_L4 mn a1 n v4_2 v4_3 → ∀ (H : Heap) (locs : List Loc), va_P D vwCl (W_X5 cI m0 m1 m2 m3 m4 m5 m6 m7 m8 m9 m10 m11 mr mc me mw mh mn mu ms mt md mz mi mk mo mj ml) H → va_D A (W_X5 cI m0 m1 m2 m3 m4 m5 m6 m7 m8 m9 m10 m11 mr mc me mw mh mn mu ms mt md mz mi mk mo mj ml) → va_S A s.heap H locs → ∀ ls : Array Slot, lv_has ls 4 [(3, .int v4_3), (2, .int v4_2), (0, .ref m0), (1, .int a1)] → W p l e (headSpec wsX5_plausible rm_X5_plausible).room s m ([.ref m0, .int a1] : List Value).toArray below meth c H locs 0 0 (MQ below (Q_X5_plausible D cI m0 m1 m2 m3 m4 m5 m6 m7 m8 m9 m10 m11 mr mc me mw mh mn mu ms mt md mz mi mk mo mj ml a1 A) ([.ref m0, .int a1] : List Value).toArray s 0 0 A) (F0 m 4 ls []) := by
    intro n
    induction n with
    | zero => exact fun _ _ hp => hp.elim
    | succ n ih =>
      intro v4_2 v4_3 hp he H locs hP hD hS ls hl
      replace hp := Eq.mp (p_X5_plausible_L4.eq_2 ..) hp
      replace he := he.trans (f_X5_plausible_L4.eq_2 ..)
      refine lv_iload_n hx hb dX5_plausible_4 rfl (lv_at hl 0 rfl) ?_
      refine lv_bipush (v := 14) hx hb dX5_plausible_5 (by decide) ?_
      refine lv_icmp_ge (tgt := 39) hx hb dX5_plausible_7 (by decide) (fun c2 => ?_) (fun c2 => ?_)
      · replace hp := hp.1 c2
        replace he := he.trans (if_pos c2)
        exact kont1 _ _ he _ _ hP hD hS _ (lv_sub hl [1, 2, 3] rfl)
      · replace hp := hp.2 c2
        replace he := he.trans (if_neg c2)
        refine lv_iload_n hx hb dX5_plausible_10 rfl (lv_at hl 1 rfl) ?_
        refine lv_aload_n hx hb dX5_plausible_11 rfl (lv_at hl 2 rfl) ?_
        refine va_get (D := D) (ci := 5) (v := .ref m1) (C := RX5) (T := TX5) (N := 16) hx hb hts (by decide +kernel) hown hK hP 0 rfl rfl 0 (by decide) (hts (.fieldLink RX5 7 "AlarmgroveModel" "needs" "[I") (by decide +kernel)) (fun _ h9 => h9) rfl dX5_plausible_12 ?_
        refine lv_iload_n hx hb dX5_plausible_15 rfl (lv_at hl 0 rfl) ?_
        have h3 := hp.1
        replace hp := hp.2
        refine va_iald hx hb hK hP 1 0 rfl rfl h3 dX5_plausible_16 ?_
        refine lv_iload_n hx hb dX5_plausible_17 rfl (lv_at hl 3 rfl) ?_
        refine k_calli (S := Unit) (wc := ([] : va_W)) (wr := (W_X5 cI m0 m1 m2 m3 m4 m5 m6 m7 m8 m9 m10 m11 mr mc me mw mh mn mu ms mt md mz mi mk mo mj ml)) (w1 := fun u => ([] : va_W)) (fun u => (W_X5 cI m0 m1 m2 m3 m4 m5 m6 m7 m8 m9 m10 m11 mr mc me mw mh mn mu ms mt md mz mi mk mo mj ml)) hP hK hD hN hS hA [] [0, 1, 2, 3, 4, 5, 6, 7, 8, 9, 10, 11] rfl rfl (by decide) (by decide) (by decide) [0, 1, 2, 3, 4, 5, 6, 7, 8, 9, 10, 11] (by decide) (fun _ => rfl) (fun hg => va_runS (As := [.int (mn (v4_3).toNatClampNeg), .int a1]) (rest := [.int v4_2]) ⟨hx, hb, hml, hown, hts⟩ (c_X5_has l D cI _ (mn (v4_3).toNatClampNeg) a1) (va_cwS 2 hts gX5_plausible_X5_has rfl rfl rfl (by decide +kernel) ⟨Nat.le_of_ble_eq_true rfl, Nat.le_of_ble_eq_true rfl⟩) ⟨PW.blind, fun U hU hW => ⟨rfl, hg U hU hW⟩⟩ rfl rfl hl.1 rfl (lv_room (Nat.le_of_ble_eq_true rfl)) dX5_plausible_18 ⟨Nat.le_of_ble_eq_true rfl, Nat.le_of_ble_eq_true rfl⟩) (fun r4 u H locs hw hP hD hS => ?_)
        obtain ⟨hw, hb4⟩ := hw
        subst hw
        obtain ⟨j5, hJ5⟩ : ∃ z : Int32, z = (if (f_X5_has (mn (v4_3).toNatClampNeg) a1) = 0 then (0 : Int32) else (1 <<< (v4_3 &&& 31))) := ⟨_, rfl⟩
        rw [← hJ5] at he
        try dsimp only at he
        have hpJ5 := hp.1
        replace hp := hp.2 _  hJ5.symm
        have kont5 : ∀ (H : Heap) (locs : List Loc), va_P D vwCl (W_X5 cI m0 m1 m2 m3 m4 m5 m6 m7 m8 m9 m10 m11 mr mc me mw mh mn mu ms mt md mz mi mk mo mj ml) H → va_D A (W_X5 cI m0 m1 m2 m3 m4 m5 m6 m7 m8 m9 m10 m11 mr mc me mw mh mn mu ms mt md mz mi mk mo mj ml) → va_S A s.heap H locs → ∀ ls : Array Slot, lv_has ls 4 [(3, .int v4_3), (0, .ref m0), (1, .int a1)] → W p l e (headSpec wsX5_plausible rm_X5_plausible).room s m ([.ref m0, .int a1] : List Value).toArray below meth c H locs 0 0 (MQ below (Q_X5_plausible D cI m0 m1 m2 m3 m4 m5 m6 m7 m8 m9 m10 m11 mr mc me mw mh mn mu ms mt md mz mi mk mo mj ml a1 A) ([.ref m0, .int a1] : List Value).toArray s 0 0 A) (F0 m 31 ls [.int j5, .int v4_2]) := by
          intro H locs hP hD hS ls hl
          refine lv_ior hx hb dX5_plausible_31 ?_
          refine lv_istore_n (lv' := [(2, .int (v4_2 ||| j5)), (3, .int v4_3), (0, .ref m0), (1, .int a1)]) hx hb dX5_plausible_32 rfl hl (by decide) rfl (fun ls hl => ?_)
          refine lv_iinc (v := (v4_3 + 1)) (lv' := [(3, .int (v4_3 + 1)), (2, .int (v4_2 ||| j5)), (0, .ref m0), (1, .int a1)]) hx hb dX5_plausible_33 hl (k := 1) rfl rfl (by decide) rfl (fun ls hl => ?_)
          refine lv_goto (tgt := 4) hx hb dX5_plausible_36 (by decide) ?_
          exact ih _ _ hp he _ _ hP hD hS _ (lv_sub hl [0, 1, 2, 3] rfl)
        replace he := hJ5
        replace hp := hpJ5
        refine lv_if_eq (tgt := 30) hx hb dX5_plausible_21 (by decide) (fun c6 => ?_) (fun c6 => ?_)
        · replace hp := hp.1 c6
          replace he := he.trans (if_pos c6)
          refine lv_iconst (v := 0) hx hb dX5_plausible_30 (by decide) ?_
          subst he
          exact kont5 _ _ hP hD hS _ (lv_sub hl [0, 2, 3] rfl)
        · replace hp := hp.2 c6
          replace he := he.trans (if_neg c6)
          refine lv_iconst (v := 1) hx hb dX5_plausible_24 (by decide) ?_
          refine lv_iload_n hx hb dX5_plausible_25 rfl (lv_at hl 0 rfl) ?_
          refine lv_ishl hx hb dX5_plausible_26 ?_
          refine lv_goto (tgt := 31) hx hb dX5_plausible_27 (by decide) ?_
          subst he
          exact kont5 _ _ hP hD hS _ (lv_sub hl [0, 2, 3] rfl)
  exact loop1 15 (0 : Int32) (0 : Int32) hpL1 hL1 _ _ hP hD hS _ (lv_sub hl [0, 1, 2, 3] rfl)
abbrev rm_X5_isPlausible : Room := { frames := 2, cells := 0, slots := 0, locals := 44 }
abbrev Q_X5_isPlausible (D : va_G) (cI : ClassId) (m0 m1 m2 m3 m4 m5 m6 m7 m8 m9 m10 m11 : Nat) (mr : Int32) (mc : Int32) (me : Int32) (mw : Int32) (mh : Int32) (mn : AA) (mu : AA) (ms : AA) (mt : AA) (md : AA) (mz : AA) (mi : AA) (mk : AA) (mo : AA) (mj : AA) (ml : AA) (a1 : Int32) (A : Nat → Prop) : Array Value → State → Outcome → State → Prop := va_Qi (S := Int32) (fun r u => f_X5_isPlausible mr mn a1 = (r, u) ∧ (r = 0 ∨ r = 1)) (fun u t => QW D [(cI, .int)] A (W_X5 cI m0 m1 m2 m3 m4 m5 m6 m7 m8 m9 m10 m11 mr mc me mw u mn mu ms mt md mz mi mk mo mj ml) t) A
set_option maxHeartbeats 4000000 in
set_option maxRecDepth 100000 in
theorem c_X5_isPlausible (l : Launch)  (D : va_G) (cI : ClassId) (m0 m1 m2 m3 m4 m5 m6 m7 m8 m9 m10 m11 : Nat) (mr : Int32) (mc : Int32) (me : Int32) (mw : Int32) (mh : Int32) (mn : AA) (mu : AA) (ms : AA) (mt : AA) (md : AA) (mz : AA) (mi : AA) (mk : AA) (mo : AA) (mj : AA) (ml : AA) (sz : Nat) (a1 : Int32) (hp : p_X5_isPlausible mr mn a1) : Met l yX5_isPlausible wsX5_isPlausible rm_X5_isPlausible (va_Pc [.ref m0, .int a1] (PW D [(cI, .int)] sz (W_X5 cI m0 m1 m2 m3 m4 m5 m6 m7 m8 m9 m10 m11 mr mc me mw mh mn mu ms mt md mz mi mk mo mj ml))) (Q_X5_isPlausible D cI m0 m1 m2 m3 m4 m5 m6 m7 m8 m9 m10 m11 mr mc me mw mh mn mu ms mt md mz mi mk mo mj ml a1 (va_A (W_X5 cI m0 m1 m2 m3 m4 m5 m6 m7 m8 m9 m10 m11 mr mc me mw mh mn mu ms mt md mz mi mk mo mj ml) sz)) 0 0 (va_A (W_X5 cI m0 m1 m2 m3 m4 m5 m6 m7 m8 m9 m10 m11 mr mc me mw mh mn mu ms mt md mz mi mk mo mj ml) sz) := by
  refine Met.ofW (cc := cX5_isPlausible) (maxL := 2) (ret := (some .boolean)) (by decide) rfl ?_
  intro p e s m args below meth c s₁ B hml hv
  obtain ⟨rfl, hsz, hP, hK, hD0, hN⟩ := hv
  have hx := B.exec
  have hb := B.bytes
  have hr := B.returns
  have hts := atoms_spec (ws := wsX5_isPlausible) B.pre
  have hown : s.vm.findClass RX5 = some m.cls := findClass_of_methodNamed B.named
  have hlocks := B.notSynchronized
  subst hsz
  have hD := hD0.self (sz := s.heap.size)
  generalize hAe : va_A (W_X5 cI m0 m1 m2 m3 m4 m5 m6 m7 m8 m9 m10 m11 mr mc me mw mh mn mu ms mt md mz mi mk mo mj ml) s.heap.size = A at hD ⊢
  have hA : ∀ q : Nat, s.heap.size ≤ q → A q := fun q h => by rw [← hAe]; exact Or.inr h
  have hS : va_S A s.heap s.heap [] := va_S.rf
  have hl := lv_entry ([.ref m0, .int a1]) (n := 2) (Nat.le_of_ble_eq_true rfl)
  rw [lg_entry_eq]
  generalize (lg_sl ([.ref m0, .int a1]) ++ List.replicate (2 - (lg_sl ([.ref m0, .int a1])).length) Slot.unset).toArray = ls at hl ⊢
  have hl : lv_has ls 2 [(0, .ref m0), (1, .int a1)] := hl
  have he := f_X5_isPlausible.eq_1 mr mn a1
  replace hp := Eq.mp (p_X5_isPlausible.eq_1 ..) hp
  refine lv_aload_n hx hb dX5_isPlausible_0 rfl (lv_at hl 0 rfl) ?_
  refine lv_iload_n hx hb dX5_isPlausible_1 rfl (lv_at hl 1 rfl) ?_
  refine k_calli (S := Unit) (wc := ([] : va_W)) (wr := (W_X5 cI m0 m1 m2 m3 m4 m5 m6 m7 m8 m9 m10 m11 mr mc me mw mh mn mu ms mt md mz mi mk mo mj ml)) (w1 := fun u => ([] : va_W)) (fun u => (W_X5 cI m0 m1 m2 m3 m4 m5 m6 m7 m8 m9 m10 m11 mr mc me mw mh mn mu ms mt md mz mi mk mo mj ml)) hP hK hD hN hS hA [] [0, 1, 2, 3, 4, 5, 6, 7, 8, 9, 10, 11] rfl rfl (by decide) (by decide) (by decide) [0, 1, 2, 3, 4, 5, 6, 7, 8, 9, 10, 11] (by decide) (fun _ => rfl) (fun hg => va_runS (As := [.int a1]) (rest := [.ref m0]) ⟨hx, hb, hml, hown, hts⟩ (c_X5_isNode l D cI _ a1) (va_cwS 1 hts gX5_isPlausible_X5_isNode rfl rfl rfl (by decide +kernel) ⟨Nat.le_of_ble_eq_true rfl, Nat.le_of_ble_eq_true rfl⟩) ⟨PW.blind, fun U hU hW => ⟨rfl, hg U hU hW⟩⟩ rfl rfl hl.1 rfl (lv_room (Nat.le_of_ble_eq_true rfl)) dX5_isPlausible_2 ⟨Nat.le_of_ble_eq_true rfl, Nat.le_of_ble_eq_true rfl⟩) (fun r1 u H locs hw hP hD hS => ?_)
  obtain ⟨hw, hb1⟩ := hw
  subst hw
  refine lv_iconst (v := 1) hx hb dX5_isPlausible_5 (by decide) ?_
  refine k_calli (S := Int32) (wc := (W_X5 cI m0 m1 m2 m3 m4 m5 m6 m7 m8 m9 m10 m11 mr mc me mw mh mn mu ms mt md mz mi mk mo mj ml)) (wr := ([] : va_W)) (w1 := fun u => (W_X5 cI m0 m1 m2 m3 m4 m5 m6 m7 m8 m9 m10 m11 mr mc me mw u mn mu ms mt md mz mi mk mo mj ml)) (fun u => (W_X5 cI m0 m1 m2 m3 m4 m5 m6 m7 m8 m9 m10 m11 mr mc me mw u mn mu ms mt md mz mi mk mo mj ml)) hP hK hD hN hS hA [0, 1, 2, 3, 4, 5, 6, 7, 8, 9, 10, 11] [] rfl rfl (by decide) (by decide) (by decide) [0, 1, 2, 3, 4, 5, 6, 7, 8, 9, 10, 11] (by decide) (fun _ => rfl) (fun hg => va_runV (As := [.int (f_X5_isNode a1), .int 1]) (rest := []) ⟨hx, hb, hml, hown, hts⟩ (c_X5_goes l D cI m0 m1 m2 m3 m4 m5 m6 m7 m8 m9 m10 m11 mr mc me mw mh mn mu ms mt md mz mi mk mo mj ml _ (f_X5_isNode a1) 1) (cwV 2 hts gX5_isPlausible_X5_goes rfl rfl rfl (by decide +kernel) ⟨Nat.le_of_ble_eq_true rfl, Nat.le_of_ble_eq_true rfl⟩) ⟨PW.blind, va_recv hK hP (ci := 5) (q0 := 0) rfl rfl, fun U hU hW => ⟨rfl, hg U hU hW⟩⟩ rfl rfl hl.1 rfl (lv_room (Nat.le_of_ble_eq_true rfl)) dX5_isPlausible_6 ⟨Nat.le_of_ble_eq_true rfl, Nat.le_of_ble_eq_true rfl⟩) (fun r2 u H locs hw hP hD hS => ?_)
  obtain ⟨u2_0, rfl⟩ : ∃ z, z = u := ⟨_, rfl⟩
  obtain ⟨hw, hb2⟩ := hw
  rw [hw] at he
  try dsimp only at he
  replace hp := hp r2 u2_0 hw
  have hP : va_P D vwCl (W_X5 cI m0 m1 m2 m3 m4 m5 m6 m7 m8 m9 m10 m11 mr mc me mw u2_0 mn mu ms mt md mz mi mk mo mj ml) H := hP
  have hD : va_D A (W_X5 cI m0 m1 m2 m3 m4 m5 m6 m7 m8 m9 m10 m11 mr mc me mw u2_0 mn mu ms mt md mz mi mk mo mj ml) := hD
  obtain ⟨j3, hJ3⟩ : ∃ z : Int32, z = (if r2 = 0 then (0 : Int32) else (if (f_X5_plausible mr mn a1) = 0 then (0 : Int32) else (1 : Int32))) := ⟨_, rfl⟩
  rw [← hJ3] at he
  try dsimp only at he
  have hpJ3 := hp.1
  replace hp := hp.2 _  hJ3.symm
  have kont3 : (j3 = 0 ∨ j3 = 1) → ∀ (H : Heap) (locs : List Loc), va_P D vwCl (W_X5 cI m0 m1 m2 m3 m4 m5 m6 m7 m8 m9 m10 m11 mr mc me mw u2_0 mn mu ms mt md mz mi mk mo mj ml) H → va_D A (W_X5 cI m0 m1 m2 m3 m4 m5 m6 m7 m8 m9 m10 m11 mr mc me mw u2_0 mn mu ms mt md mz mi mk mo mj ml) → va_S A s.heap H locs → ∀ ls : Array Slot, lv_has ls 2 [] → W p l e (headSpec wsX5_isPlausible rm_X5_isPlausible).room s m ([.ref m0, .int a1] : List Value).toArray below meth c H locs 0 0 (MQ below (Q_X5_isPlausible D cI m0 m1 m2 m3 m4 m5 m6 m7 m8 m9 m10 m11 mr mc me mw mh mn mu ms mt md mz mi mk mo mj ml a1 A) ([.ref m0, .int a1] : List Value).toArray s 0 0 A) (F0 m 25 ls [.int j3]) := by
    intro hb3 H locs hP hD hS ls hl
    exact W.zret (ty := .boolean) (v := j3) hx hb hr (by rcases hb3 with h9 | h9 <;> rw [h9] <;> rfl) (fun t ht hW => ⟨⟨j3, u2_0, rfl, ⟨he, hb3⟩, by rw [ht]; exact hP, va_K.moved hW.alike hK, hD⟩, hS.F ht⟩) hS.2.2 dX5_isPlausible_25
  replace he := hJ3
  replace hp := hpJ3
  refine lv_if_eq (tgt := 24) hx hb dX5_isPlausible_9 (by decide) (fun c4 => ?_) (fun c4 => ?_)
  · replace hp := hp.1 c4
    replace he := he.trans (if_pos c4)
    refine lv_iconst (v := 0) hx hb dX5_isPlausible_24 (by decide) ?_
    subst he
    exact kont3 (Or.inl rfl) _ _ hP hD hS _ (lv_sub hl [] rfl)
  · replace hp := hp.2 c4
    replace he := he.trans (if_neg c4)
    refine lv_aload_n hx hb dX5_isPlausible_12 rfl (lv_at hl 0 rfl) ?_
    refine lv_iload_n hx hb dX5_isPlausible_13 rfl (lv_at hl 1 rfl) ?_
    have hq5 := hp.1
    replace hp := hp.2
    refine k_calli (S := Unit) (wc := (W_X5 cI m0 m1 m2 m3 m4 m5 m6 m7 m8 m9 m10 m11 mr mc me mw u2_0 mn mu ms mt md mz mi mk mo mj ml)) (wr := ([] : va_W)) (w1 := fun u => (W_X5 cI m0 m1 m2 m3 m4 m5 m6 m7 m8 m9 m10 m11 mr mc me mw u2_0 mn mu ms mt md mz mi mk mo mj ml)) (fun u => (W_X5 cI m0 m1 m2 m3 m4 m5 m6 m7 m8 m9 m10 m11 mr mc me mw u2_0 mn mu ms mt md mz mi mk mo mj ml)) hP hK hD hN hS hA [0, 1, 2, 3, 4, 5, 6, 7, 8, 9, 10, 11] [] rfl rfl (by decide) (by decide) (by decide) [0, 1, 2, 3, 4, 5, 6, 7, 8, 9, 10, 11] (by decide) (fun _ => rfl) (fun hg => va_runV (As := [.int a1]) (rest := []) ⟨hx, hb, hml, hown, hts⟩ (c_X5_plausible l D cI m0 m1 m2 m3 m4 m5 m6 m7 m8 m9 m10 m11 mr mc me mw u2_0 mn mu ms mt md mz mi mk mo mj ml _ a1 hq5) (cwV 1 hts gX5_isPlausible_X5_plausible rfl rfl rfl (by decide +kernel) ⟨Nat.le_of_ble_eq_true rfl, Nat.le_of_ble_eq_true rfl⟩) ⟨PW.blind, va_recv hK hP (ci := 5) (q0 := 0) rfl rfl, fun U hU hW => ⟨rfl, hg U hU hW⟩⟩ rfl rfl hl.1 rfl (lv_room (Nat.le_of_ble_eq_true rfl)) dX5_isPlausible_14 ⟨Nat.le_of_ble_eq_true rfl, Nat.le_of_ble_eq_true rfl⟩) (fun r5 u H locs hw hP hD hS => ?_)
    obtain ⟨hw, hb5⟩ := hw
    subst hw
    refine lv_if_eq (tgt := 24) hx hb dX5_isPlausible_17 (by decide) (fun c6 => ?_) (fun c6 => ?_)
    · replace hp := hp.1 c6
      replace he := he.trans (if_pos c6)
      refine lv_iconst (v := 0) hx hb dX5_isPlausible_24 (by decide) ?_
      subst he
      exact kont3 (Or.inl rfl) _ _ hP hD hS _ (lv_sub hl [] rfl)
    · replace hp := hp.2 c6
      replace he := he.trans (if_neg c6)
      refine lv_iconst (v := 1) hx hb dX5_isPlausible_20 (by decide) ?_
      refine lv_goto (tgt := 25) hx hb dX5_isPlausible_21 (by decide) ?_
      subst he
      exact kont3 (Or.inr rfl) _ _ hP hD hS _ (lv_sub hl [] rfl)
abbrev rm_X5_explains : Room := { frames := 1, cells := 0, slots := 0, locals := 21 }
abbrev Q_X5_explains (D : va_G) (cI : ClassId) (m0 m1 m2 m3 m4 m5 m6 m7 m8 m9 m10 m11 : Nat) (mr : Int32) (mc : Int32) (me : Int32) (mw : Int32) (mh : Int32) (mn : AA) (mu : AA) (ms : AA) (mt : AA) (md : AA) (mz : AA) (mi : AA) (mk : AA) (mo : AA) (mj : AA) (ml : AA) (a1 : Int32) (A : Nat → Prop) : Array Value → State → Outcome → State → Prop := va_Qi (S := Unit) (fun r u => f_X5_explains mu a1 = r) (fun u t => QW D [(cI, .int)] A (W_X5 cI m0 m1 m2 m3 m4 m5 m6 m7 m8 m9 m10 m11 mr mc me mw mh mn mu ms mt md mz mi mk mo mj ml) t) A
set_option maxHeartbeats 4000000 in
set_option maxRecDepth 100000 in
theorem c_X5_explains (l : Launch)  (D : va_G) (cI : ClassId) (m0 m1 m2 m3 m4 m5 m6 m7 m8 m9 m10 m11 : Nat) (mr : Int32) (mc : Int32) (me : Int32) (mw : Int32) (mh : Int32) (mn : AA) (mu : AA) (ms : AA) (mt : AA) (md : AA) (mz : AA) (mi : AA) (mk : AA) (mo : AA) (mj : AA) (ml : AA) (sz : Nat) (a1 : Int32) (hp : p_X5_explains mu a1) : Met l yX5_explains wsX5_explains rm_X5_explains (va_Pc [.ref m0, .int a1] (PW D [(cI, .int)] sz (W_X5 cI m0 m1 m2 m3 m4 m5 m6 m7 m8 m9 m10 m11 mr mc me mw mh mn mu ms mt md mz mi mk mo mj ml))) (Q_X5_explains D cI m0 m1 m2 m3 m4 m5 m6 m7 m8 m9 m10 m11 mr mc me mw mh mn mu ms mt md mz mi mk mo mj ml a1 (va_A (W_X5 cI m0 m1 m2 m3 m4 m5 m6 m7 m8 m9 m10 m11 mr mc me mw mh mn mu ms mt md mz mi mk mo mj ml) sz)) 0 0 (va_A (W_X5 cI m0 m1 m2 m3 m4 m5 m6 m7 m8 m9 m10 m11 mr mc me mw mh mn mu ms mt md mz mi mk mo mj ml) sz) := by
  refine Met.ofW (cc := cX5_explains) (maxL := 4) (ret := (some .int)) (by decide) rfl ?_
  intro p e s m args below meth c s₁ B hml hv
  obtain ⟨rfl, hsz, hP, hK, hD0, hN⟩ := hv
  have hx := B.exec
  have hb := B.bytes
  have hr := B.returns
  have hts := atoms_spec (ws := wsX5_explains) B.pre
  have hown : s.vm.findClass RX5 = some m.cls := findClass_of_methodNamed B.named
  have hlocks := B.notSynchronized
  subst hsz
  have hD := hD0.self (sz := s.heap.size)
  generalize hAe : va_A (W_X5 cI m0 m1 m2 m3 m4 m5 m6 m7 m8 m9 m10 m11 mr mc me mw mh mn mu ms mt md mz mi mk mo mj ml) s.heap.size = A at hD ⊢
  have hA : ∀ q : Nat, s.heap.size ≤ q → A q := fun q h => by rw [← hAe]; exact Or.inr h
  have hS : va_S A s.heap s.heap [] := va_S.rf
  have hl := lv_entry ([.ref m0, .int a1]) (n := 4) (Nat.le_of_ble_eq_true rfl)
  rw [lg_entry_eq]
  generalize (lg_sl ([.ref m0, .int a1]) ++ List.replicate (4 - (lg_sl ([.ref m0, .int a1])).length) Slot.unset).toArray = ls at hl ⊢
  have hl : lv_has ls 4 [(0, .ref m0), (1, .int a1)] := hl
  have he := f_X5_explains.eq_1 mu a1
  replace hp := Eq.mp (p_X5_explains.eq_1 ..) hp
  refine lv_iconst (v := 1) hx hb dX5_explains_0 (by decide) ?_
  refine lv_iload_n hx hb dX5_explains_1 rfl (lv_at hl 1 rfl) ?_
  refine lv_ishl hx hb dX5_explains_2 ?_
  refine lv_istore_n (lv' := [(2, .int (1 <<< (a1 &&& 31))), (0, .ref m0), (1, .int a1)]) hx hb dX5_explains_3 rfl hl (by decide) rfl (fun ls hl => ?_)
  refine lv_iconst (v := 0) hx hb dX5_explains_4 (by decide) ?_
  refine lv_istore_n (lv' := [(3, .int 0), (2, .int (1 <<< (a1 &&& 31))), (0, .ref m0), (1, .int a1)]) hx hb dX5_explains_5 rfl hl (by decide) rfl (fun ls hl => ?_)
  obtain ⟨⟨r1_v6_2, r1_v6_3⟩, hL1⟩ : ∃ z, z = f_X5_explains_L6 mu a1 15 (1 <<< (a1 &&& 31)) (0 : Int32) := ⟨_, rfl⟩
  rw [← hL1] at he
  try dsimp only at he
  have hpL1 := hp.1
  replace hp := hp.2 _ _ hL1.symm
  have kont1 : ∀ (x1_v6_2 : Int32) (x1_v6_3 : Int32), (r1_v6_2, r1_v6_3) = (x1_v6_2, x1_v6_3) → ∀ (H : Heap) (locs : List Loc), va_P D vwCl (W_X5 cI m0 m1 m2 m3 m4 m5 m6 m7 m8 m9 m10 m11 mr mc me mw mh mn mu ms mt md mz mi mk mo mj ml) H → va_D A (W_X5 cI m0 m1 m2 m3 m4 m5 m6 m7 m8 m9 m10 m11 mr mc me mw mh mn mu ms mt md mz mi mk mo mj ml) → va_S A s.heap H locs → ∀ ls : Array Slot, lv_has ls 4 [(2, .int x1_v6_2)] → W p l e (headSpec wsX5_explains rm_X5_explains).room s m ([.ref m0, .int a1] : List Value).toArray below meth c H locs 0 0 (MQ below (Q_X5_explains D cI m0 m1 m2 m3 m4 m5 m6 m7 m8 m9 m10 m11 mr mc me mw mh mn mu ms mt md mz mi mk mo mj ml a1 A) ([.ref m0, .int a1] : List Value).toArray s 0 0 A) (F0 m 41 ls []) := by
    intro x1_v6_2 x1_v6_3 hxe H locs hP hD hS ls hl
    simp only [Prod.mk.injEq] at hxe
    obtain ⟨rfl, rfl⟩ := hxe
    refine lv_iload_n hx hb dX5_explains_41 rfl (lv_at hl 0 rfl) ?_
    exact W.iret (v := r1_v6_2) hx hb hr (fun t ht hW => ⟨⟨r1_v6_2, (), rfl, he, by rw [ht]; exact hP, va_K.moved hW.alike hK, hD⟩, hS.F ht⟩) hS.2.2 dX5_explains_42
  have loop1 : ∀ (n : Nat) (v6_2 : Int32) (v6_3 : Int32), p_X5_explains_L6 mu a1 n v6_2 v6_3 → (r1_v6_2, r1_v6_3) = f_X5_explains_L6 mu a1 n v6_2 v6_3 → ∀ (H : Heap) (locs : List Loc), va_P D vwCl (W_X5 cI m0 m1 m2 m3 m4 m5 m6 m7 m8 m9 m10 m11 mr mc me mw mh mn mu ms mt md mz mi mk mo mj ml) H → va_D A (W_X5 cI m0 m1 m2 m3 m4 m5 m6 m7 m8 m9 m10 m11 mr mc me mw mh mn mu ms mt md mz mi mk mo mj ml) → va_S A s.heap H locs → ∀ ls : Array Slot, lv_has ls 4 [(3, .int v6_3), (2, .int v6_2), (0, .ref m0), (1, .int a1)] → W p l e (headSpec wsX5_explains rm_X5_explains).room s m ([.ref m0, .int a1] : List Value).toArray below meth c H locs 0 0 (MQ below (Q_X5_explains D cI m0 m1 m2 m3 m4 m5 m6 m7 m8 m9 m10 m11 mr mc me mw mh mn mu ms mt md mz mi mk mo mj ml a1 A) ([.ref m0, .int a1] : List Value).toArray s 0 0 A) (F0 m 6 ls []) := by
    intro n
    induction n with
    | zero => exact fun _ _ hp => hp.elim
    | succ n ih =>
      intro v6_2 v6_3 hp he H locs hP hD hS ls hl
      replace hp := Eq.mp (p_X5_explains_L6.eq_2 ..) hp
      replace he := he.trans (f_X5_explains_L6.eq_2 ..)
      refine lv_iload_n hx hb dX5_explains_6 rfl (lv_at hl 0 rfl) ?_
      refine lv_bipush (v := 14) hx hb dX5_explains_7 (by decide) ?_
      refine lv_icmp_ge (tgt := 41) hx hb dX5_explains_9 (by decide) (fun c2 => ?_) (fun c2 => ?_)
      · replace hp := hp.1 c2
        replace he := he.trans (if_pos c2)
        exact kont1 _ _ he _ _ hP hD hS _ (lv_sub hl [1] rfl)
      · replace hp := hp.2 c2
        replace he := he.trans (if_neg c2)
        refine lv_iload_n hx hb dX5_explains_12 rfl (lv_at hl 1 rfl) ?_
        refine lv_aload_n hx hb dX5_explains_13 rfl (lv_at hl 2 rfl) ?_
        refine va_get (D := D) (ci := 5) (v := .ref m2) (C := RX5) (T := TX5) (N := 16) hx hb hts (by decide +kernel) hown hK hP 0 rfl rfl 1 (by decide) (hts (.fieldLink RX5 13 "AlarmgroveModel" "under" "[I") (by decide +kernel)) (fun _ h9 => h9) rfl dX5_explains_14 ?_
        refine lv_iload_n hx hb dX5_explains_17 rfl (lv_at hl 0 rfl) ?_
        have h3 := hp.1
        replace hp := hp.2
        refine va_iald hx hb hK hP 2 0 rfl rfl h3 dX5_explains_18 ?_
        refine lv_iload_n hx hb dX5_explains_19 rfl (lv_at hl 3 rfl) ?_
        refine k_calli (S := Unit) (wc := ([] : va_W)) (wr := (W_X5 cI m0 m1 m2 m3 m4 m5 m6 m7 m8 m9 m10 m11 mr mc me mw mh mn mu ms mt md mz mi mk mo mj ml)) (w1 := fun u => ([] : va_W)) (fun u => (W_X5 cI m0 m1 m2 m3 m4 m5 m6 m7 m8 m9 m10 m11 mr mc me mw mh mn mu ms mt md mz mi mk mo mj ml)) hP hK hD hN hS hA [] [0, 1, 2, 3, 4, 5, 6, 7, 8, 9, 10, 11] rfl rfl (by decide) (by decide) (by decide) [0, 1, 2, 3, 4, 5, 6, 7, 8, 9, 10, 11] (by decide) (fun _ => rfl) (fun hg => va_runS (As := [.int (mu (v6_3).toNatClampNeg), .int a1]) (rest := [.int v6_2]) ⟨hx, hb, hml, hown, hts⟩ (c_X5_has l D cI _ (mu (v6_3).toNatClampNeg) a1) (va_cwS 2 hts gX5_explains_X5_has rfl rfl rfl (by decide +kernel) ⟨Nat.le_of_ble_eq_true rfl, Nat.le_of_ble_eq_true rfl⟩) ⟨PW.blind, fun U hU hW => ⟨rfl, hg U hU hW⟩⟩ rfl rfl hl.1 rfl (lv_room (Nat.le_of_ble_eq_true rfl)) dX5_explains_20 ⟨Nat.le_of_ble_eq_true rfl, Nat.le_of_ble_eq_true rfl⟩) (fun r4 u H locs hw hP hD hS => ?_)
        obtain ⟨hw, hb4⟩ := hw
        subst hw
        obtain ⟨j5, hJ5⟩ : ∃ z : Int32, z = (if (f_X5_has (mu (v6_3).toNatClampNeg) a1) = 0 then (0 : Int32) else (1 <<< (v6_3 &&& 31))) := ⟨_, rfl⟩
        rw [← hJ5] at he
        try dsimp only at he
        have hpJ5 := hp.1
        replace hp := hp.2 _  hJ5.symm
        have kont5 : ∀ (H : Heap) (locs : List Loc), va_P D vwCl (W_X5 cI m0 m1 m2 m3 m4 m5 m6 m7 m8 m9 m10 m11 mr mc me mw mh mn mu ms mt md mz mi mk mo mj ml) H → va_D A (W_X5 cI m0 m1 m2 m3 m4 m5 m6 m7 m8 m9 m10 m11 mr mc me mw mh mn mu ms mt md mz mi mk mo mj ml) → va_S A s.heap H locs → ∀ ls : Array Slot, lv_has ls 4 [(3, .int v6_3), (0, .ref m0), (1, .int a1)] → W p l e (headSpec wsX5_explains rm_X5_explains).room s m ([.ref m0, .int a1] : List Value).toArray below meth c H locs 0 0 (MQ below (Q_X5_explains D cI m0 m1 m2 m3 m4 m5 m6 m7 m8 m9 m10 m11 mr mc me mw mh mn mu ms mt md mz mi mk mo mj ml a1 A) ([.ref m0, .int a1] : List Value).toArray s 0 0 A) (F0 m 33 ls [.int j5, .int v6_2]) := by
          intro H locs hP hD hS ls hl
          refine lv_ior hx hb dX5_explains_33 ?_
          refine lv_istore_n (lv' := [(2, .int (v6_2 ||| j5)), (3, .int v6_3), (0, .ref m0), (1, .int a1)]) hx hb dX5_explains_34 rfl hl (by decide) rfl (fun ls hl => ?_)
          refine lv_iinc (v := (v6_3 + 1)) (lv' := [(3, .int (v6_3 + 1)), (2, .int (v6_2 ||| j5)), (0, .ref m0), (1, .int a1)]) hx hb dX5_explains_35 hl (k := 1) rfl rfl (by decide) rfl (fun ls hl => ?_)
          refine lv_goto (tgt := 6) hx hb dX5_explains_38 (by decide) ?_
          exact ih _ _ hp he _ _ hP hD hS _ (lv_sub hl [0, 1, 2, 3] rfl)
        replace he := hJ5
        replace hp := hpJ5
        refine lv_if_eq (tgt := 32) hx hb dX5_explains_23 (by decide) (fun c6 => ?_) (fun c6 => ?_)
        · replace hp := hp.1 c6
          replace he := he.trans (if_pos c6)
          refine lv_iconst (v := 0) hx hb dX5_explains_32 (by decide) ?_
          subst he
          exact kont5 _ _ hP hD hS _ (lv_sub hl [0, 2, 3] rfl)
        · replace hp := hp.2 c6
          replace he := he.trans (if_neg c6)
          refine lv_iconst (v := 1) hx hb dX5_explains_26 (by decide) ?_
          refine lv_iload_n hx hb dX5_explains_27 rfl (lv_at hl 0 rfl) ?_
          refine lv_ishl hx hb dX5_explains_28 ?_
          refine lv_goto (tgt := 33) hx hb dX5_explains_29 (by decide) ?_
          subst he
          exact kont5 _ _ hP hD hS _ (lv_sub hl [0, 2, 3] rfl)
  exact loop1 15 (1 <<< (a1 &&& 31)) (0 : Int32) hpL1 hL1 _ _ hP hD hS _ (lv_sub hl [0, 1, 2, 3] rfl)
abbrev rm_X5_explained : Room := { frames := 1, cells := 0, slots := 0, locals := 21 }
abbrev Q_X5_explained (D : va_G) (cI : ClassId) (m0 m1 m2 m3 m4 m5 m6 m7 m8 m9 m10 m11 : Nat) (mr : Int32) (mc : Int32) (me : Int32) (mw : Int32) (mh : Int32) (mn : AA) (mu : AA) (ms : AA) (mt : AA) (md : AA) (mz : AA) (mi : AA) (mk : AA) (mo : AA) (mj : AA) (ml : AA) (a1 : Int32) (A : Nat → Prop) : Array Value → State → Outcome → State → Prop := va_Qi (S := Unit) (fun r u => f_X5_explained mu a1 = r) (fun u t => QW D [(cI, .int)] A (W_X5 cI m0 m1 m2 m3 m4 m5 m6 m7 m8 m9 m10 m11 mr mc me mw mh mn mu ms mt md mz mi mk mo mj ml) t) A
set_option maxHeartbeats 4000000 in
set_option maxRecDepth 100000 in
theorem c_X5_explained (l : Launch)  (D : va_G) (cI : ClassId) (m0 m1 m2 m3 m4 m5 m6 m7 m8 m9 m10 m11 : Nat) (mr : Int32) (mc : Int32) (me : Int32) (mw : Int32) (mh : Int32) (mn : AA) (mu : AA) (ms : AA) (mt : AA) (md : AA) (mz : AA) (mi : AA) (mk : AA) (mo : AA) (mj : AA) (ml : AA) (sz : Nat) (a1 : Int32) (hp : p_X5_explained mu a1) : Met l yX5_explained wsX5_explained rm_X5_explained (va_Pc [.ref m0, .int a1] (PW D [(cI, .int)] sz (W_X5 cI m0 m1 m2 m3 m4 m5 m6 m7 m8 m9 m10 m11 mr mc me mw mh mn mu ms mt md mz mi mk mo mj ml))) (Q_X5_explained D cI m0 m1 m2 m3 m4 m5 m6 m7 m8 m9 m10 m11 mr mc me mw mh mn mu ms mt md mz mi mk mo mj ml a1 (va_A (W_X5 cI m0 m1 m2 m3 m4 m5 m6 m7 m8 m9 m10 m11 mr mc me mw mh mn mu ms mt md mz mi mk mo mj ml) sz)) 0 0 (va_A (W_X5 cI m0 m1 m2 m3 m4 m5 m6 m7 m8 m9 m10 m11 mr mc me mw mh mn mu ms mt md mz mi mk mo mj ml) sz) := by
  refine Met.ofW (cc := cX5_explained) (maxL := 5) (ret := (some .int)) (by decide) rfl ?_
  intro p e s m args below meth c s₁ B hml hv
  obtain ⟨rfl, hsz, hP, hK, hD0, hN⟩ := hv
  have hx := B.exec
  have hb := B.bytes
  have hr := B.returns
  have hts := atoms_spec (ws := wsX5_explained) B.pre
  have hown : s.vm.findClass RX5 = some m.cls := findClass_of_methodNamed B.named
  have hlocks := B.notSynchronized
  subst hsz
  have hD := hD0.self (sz := s.heap.size)
  generalize hAe : va_A (W_X5 cI m0 m1 m2 m3 m4 m5 m6 m7 m8 m9 m10 m11 mr mc me mw mh mn mu ms mt md mz mi mk mo mj ml) s.heap.size = A at hD ⊢
  have hA : ∀ q : Nat, s.heap.size ≤ q → A q := fun q h => by rw [← hAe]; exact Or.inr h
  have hS : va_S A s.heap s.heap [] := va_S.rf
  have hl := lv_entry ([.ref m0, .int a1]) (n := 5) (Nat.le_of_ble_eq_true rfl)
  rw [lg_entry_eq]
  generalize (lg_sl ([.ref m0, .int a1]) ++ List.replicate (5 - (lg_sl ([.ref m0, .int a1])).length) Slot.unset).toArray = ls at hl ⊢
  have hl : lv_has ls 5 [(0, .ref m0), (1, .int a1)] := hl
  have he := f_X5_explained.eq_1 mu a1
  replace hp := Eq.mp (p_X5_explained.eq_1 ..) hp
  refine lv_iconst (v := 0) hx hb dX5_explained_0 (by decide) ?_
  refine lv_istore_n (lv' := [(2, .int 0), (0, .ref m0), (1, .int a1)]) hx hb dX5_explained_1 rfl hl (by decide) rfl (fun ls hl => ?_)
  refine lv_iconst (v := 0) hx hb dX5_explained_2 (by decide) ?_
  refine lv_istore_n (lv' := [(3, .int 0), (2, .int 0), (0, .ref m0), (1, .int a1)]) hx hb dX5_explained_3 rfl hl (by decide) rfl (fun ls hl => ?_)
  obtain ⟨⟨r1_v4_2, r1_v4_3⟩, hL1⟩ : ∃ z, z = f_X5_explained_L4 mu a1 15 (0 : Int32) (0 : Int32) := ⟨_, rfl⟩
  rw [← hL1] at he
  try dsimp only at he
  have hpL1 := hp.1
  replace hp := hp.2 _ _ hL1.symm
  have kont1 : ∀ (x1_v4_2 : Int32) (x1_v4_3 : Int32), (r1_v4_2, r1_v4_3) = (x1_v4_2, x1_v4_3) → ∀ (H : Heap) (locs : List Loc), va_P D vwCl (W_X5 cI m0 m1 m2 m3 m4 m5 m6 m7 m8 m9 m10 m11 mr mc me mw mh mn mu ms mt md mz mi mk mo mj ml) H → va_D A (W_X5 cI m0 m1 m2 m3 m4 m5 m6 m7 m8 m9 m10 m11 mr mc me mw mh mn mu ms mt md mz mi mk mo mj ml) → va_S A s.heap H locs → ∀ ls : Array Slot, lv_has ls 5 [(2, .int x1_v4_2)] → W p l e (headSpec wsX5_explained rm_X5_explained).room s m ([.ref m0, .int a1] : List Value).toArray below meth c H locs 0 0 (MQ below (Q_X5_explained D cI m0 m1 m2 m3 m4 m5 m6 m7 m8 m9 m10 m11 mr mc me mw mh mn mu ms mt md mz mi mk mo mj ml a1 A) ([.ref m0, .int a1] : List Value).toArray s 0 0 A) (F0 m 71 ls []) := by
    intro x1_v4_2 x1_v4_3 hxe H locs hP hD hS ls hl
    simp only [Prod.mk.injEq] at hxe
    obtain ⟨rfl, rfl⟩ := hxe
    refine lv_iload_n hx hb dX5_explained_71 rfl (lv_at hl 0 rfl) ?_
    exact W.iret (v := r1_v4_2) hx hb hr (fun t ht hW => ⟨⟨r1_v4_2, (), rfl, he, by rw [ht]; exact hP, va_K.moved hW.alike hK, hD⟩, hS.F ht⟩) hS.2.2 dX5_explained_72
  have loop1 : ∀ (n : Nat) (v4_2 : Int32) (v4_3 : Int32), p_X5_explained_L4 mu a1 n v4_2 v4_3 → (r1_v4_2, r1_v4_3) = f_X5_explained_L4 mu a1 n v4_2 v4_3 → ∀ (H : Heap) (locs : List Loc), va_P D vwCl (W_X5 cI m0 m1 m2 m3 m4 m5 m6 m7 m8 m9 m10 m11 mr mc me mw mh mn mu ms mt md mz mi mk mo mj ml) H → va_D A (W_X5 cI m0 m1 m2 m3 m4 m5 m6 m7 m8 m9 m10 m11 mr mc me mw mh mn mu ms mt md mz mi mk mo mj ml) → va_S A s.heap H locs → ∀ ls : Array Slot, lv_has ls 5 [(3, .int v4_3), (2, .int v4_2), (0, .ref m0), (1, .int a1)] → W p l e (headSpec wsX5_explained rm_X5_explained).room s m ([.ref m0, .int a1] : List Value).toArray below meth c H locs 0 0 (MQ below (Q_X5_explained D cI m0 m1 m2 m3 m4 m5 m6 m7 m8 m9 m10 m11 mr mc me mw mh mn mu ms mt md mz mi mk mo mj ml a1 A) ([.ref m0, .int a1] : List Value).toArray s 0 0 A) (F0 m 4 ls []) := by
    intro n
    induction n with
    | zero => exact fun _ _ hp => hp.elim
    | succ n ih =>
      intro v4_2 v4_3 hp he H locs hP hD hS ls hl
      replace hp := Eq.mp (p_X5_explained_L4.eq_2 ..) hp
      replace he := he.trans (f_X5_explained_L4.eq_2 ..)
      refine lv_iload_n hx hb dX5_explained_4 rfl (lv_at hl 0 rfl) ?_
      refine lv_bipush (v := 14) hx hb dX5_explained_5 (by decide) ?_
      refine lv_icmp_ge (tgt := 71) hx hb dX5_explained_7 (by decide) (fun c2 => ?_) (fun c2 => ?_)
      · replace hp := hp.1 c2
        replace he := he.trans (if_pos c2)
        exact kont1 _ _ he _ _ hP hD hS _ (lv_sub hl [1] rfl)
      · replace hp := hp.2 c2
        replace he := he.trans (if_neg c2)
        refine lv_iconst (v := 0) hx hb dX5_explained_10 (by decide) ?_
        refine lv_istore (lv' := [(4, .int 0), (3, .int v4_3), (2, .int v4_2), (0, .ref m0), (1, .int a1)]) hx hb dX5_explained_11 hl (by decide) rfl (fun ls hl => ?_)
        obtain ⟨⟨r3_v13_2, r3_v13_4⟩, hL3⟩ : ∃ z, z = f_X5_explained_L13 mu a1 v4_3 15 v4_2 (0 : Int32) := ⟨_, rfl⟩
        rw [← hL3] at he
        try dsimp only at he
        have hpL3 := hp.1
        replace hp := hp.2 _ _ hL3.symm
        have kont3 : ∀ (x3_v13_2 : Int32) (x3_v13_4 : Int32), (r3_v13_2, r3_v13_4) = (x3_v13_2, x3_v13_4) → ∀ (H : Heap) (locs : List Loc), va_P D vwCl (W_X5 cI m0 m1 m2 m3 m4 m5 m6 m7 m8 m9 m10 m11 mr mc me mw mh mn mu ms mt md mz mi mk mo mj ml) H → va_D A (W_X5 cI m0 m1 m2 m3 m4 m5 m6 m7 m8 m9 m10 m11 mr mc me mw mh mn mu ms mt md mz mi mk mo mj ml) → va_S A s.heap H locs → ∀ ls : Array Slot, lv_has ls 5 [(3, .int v4_3), (2, .int x3_v13_2), (0, .ref m0), (1, .int a1)] → W p l e (headSpec wsX5_explained rm_X5_explained).room s m ([.ref m0, .int a1] : List Value).toArray below meth c H locs 0 0 (MQ below (Q_X5_explained D cI m0 m1 m2 m3 m4 m5 m6 m7 m8 m9 m10 m11 mr mc me mw mh mn mu ms mt md mz mi mk mo mj ml a1 A) ([.ref m0, .int a1] : List Value).toArray s 0 0 A) (F0 m 65 ls []) := by
          intro x3_v13_2 x3_v13_4 hxe H locs hP hD hS ls hl
          simp only [Prod.mk.injEq] at hxe
          obtain ⟨rfl, rfl⟩ := hxe
          refine lv_iinc (v := (v4_3 + 1)) (lv' := [(3, .int (v4_3 + 1)), (2, .int r3_v13_2), (0, .ref m0), (1, .int a1)]) hx hb dX5_explained_65 hl (k := 0) rfl rfl (by decide) rfl (fun ls hl => ?_)
          refine lv_goto (tgt := 4) hx hb dX5_explained_68 (by decide) ?_
          exact ih _ _ hp he _ _ hP hD hS _ (lv_sub hl [0, 1, 2, 3] rfl)
        have loop3 : ∀ (n : Nat) (v13_2 : Int32) (v13_4 : Int32), p_X5_explained_L13 mu a1 v4_3 n v13_2 v13_4 → (r3_v13_2, r3_v13_4) = f_X5_explained_L13 mu a1 v4_3 n v13_2 v13_4 → ∀ (H : Heap) (locs : List Loc), va_P D vwCl (W_X5 cI m0 m1 m2 m3 m4 m5 m6 m7 m8 m9 m10 m11 mr mc me mw mh mn mu ms mt md mz mi mk mo mj ml) H → va_D A (W_X5 cI m0 m1 m2 m3 m4 m5 m6 m7 m8 m9 m10 m11 mr mc me mw mh mn mu ms mt md mz mi mk mo mj ml) → va_S A s.heap H locs → ∀ ls : Array Slot, lv_has ls 5 [(4, .int v13_4), (3, .int v4_3), (2, .int v13_2), (0, .ref m0), (1, .int a1)] → W p l e (headSpec wsX5_explained rm_X5_explained).room s m ([.ref m0, .int a1] : List Value).toArray below meth c H locs 0 0 (MQ below (Q_X5_explained D cI m0 m1 m2 m3 m4 m5 m6 m7 m8 m9 m10 m11 mr mc me mw mh mn mu ms mt md mz mi mk mo mj ml a1 A) ([.ref m0, .int a1] : List Value).toArray s 0 0 A) (F0 m 13 ls []) := by
          intro n
          induction n with
          | zero => exact fun _ _ hp => hp.elim
          | succ n ih =>
            intro v13_2 v13_4 hp he H locs hP hD hS ls hl
            replace hp := Eq.mp (p_X5_explained_L13.eq_2 ..) hp
            replace he := he.trans (f_X5_explained_L13.eq_2 ..)
            refine lv_iload hx hb dX5_explained_13 (lv_at hl 0 rfl) ?_
            refine lv_bipush (v := 14) hx hb dX5_explained_15 (by decide) ?_
            refine lv_icmp_ge (tgt := 65) hx hb dX5_explained_17 (by decide) (fun c4 => ?_) (fun c4 => ?_)
            · replace hp := hp.1 c4
              replace he := he.trans (if_pos c4)
              exact kont3 _ _ he _ _ hP hD hS _ (lv_sub hl [1, 2, 3, 4] rfl)
            · replace hp := hp.2 c4
              replace he := he.trans (if_neg c4)
              refine lv_iload_n hx hb dX5_explained_20 rfl (lv_at hl 2 rfl) ?_
              refine lv_iload_n hx hb dX5_explained_21 rfl (lv_at hl 4 rfl) ?_
              refine lv_iload hx hb dX5_explained_22 (lv_at hl 0 rfl) ?_
              refine k_calli (S := Unit) (wc := ([] : va_W)) (wr := (W_X5 cI m0 m1 m2 m3 m4 m5 m6 m7 m8 m9 m10 m11 mr mc me mw mh mn mu ms mt md mz mi mk mo mj ml)) (w1 := fun u => ([] : va_W)) (fun u => (W_X5 cI m0 m1 m2 m3 m4 m5 m6 m7 m8 m9 m10 m11 mr mc me mw mh mn mu ms mt md mz mi mk mo mj ml)) hP hK hD hN hS hA [] [0, 1, 2, 3, 4, 5, 6, 7, 8, 9, 10, 11] rfl rfl (by decide) (by decide) (by decide) [0, 1, 2, 3, 4, 5, 6, 7, 8, 9, 10, 11] (by decide) (fun _ => rfl) (fun hg => va_runS (As := [.int a1, .int v13_4]) (rest := [.int v13_2]) ⟨hx, hb, hml, hown, hts⟩ (c_X5_has l D cI _ a1 v13_4) (va_cwS 2 hts gX5_explained_X5_has rfl rfl rfl (by decide +kernel) ⟨Nat.le_of_ble_eq_true rfl, Nat.le_of_ble_eq_true rfl⟩) ⟨PW.blind, fun U hU hW => ⟨rfl, hg U hU hW⟩⟩ rfl rfl hl.1 rfl (lv_room (Nat.le_of_ble_eq_true rfl)) dX5_explained_24 ⟨Nat.le_of_ble_eq_true rfl, Nat.le_of_ble_eq_true rfl⟩) (fun r5 u H locs hw hP hD hS => ?_)
              obtain ⟨hw, hb5⟩ := hw
              subst hw
              obtain ⟨j6, hJ6⟩ : ∃ z : Int32, z = (if (f_X5_has a1 v13_4) = 0 then (0 : Int32) else (if v4_3 = v13_4 then (1 <<< (v4_3 &&& 31)) else (if (f_X5_has (mu (v4_3).toNatClampNeg) v13_4) = 0 then (0 : Int32) else (1 <<< (v4_3 &&& 31))))) := ⟨_, rfl⟩
              rw [← hJ6] at he
              try dsimp only at he
              have hpJ6 := hp.1
              replace hp := hp.2 _  hJ6.symm
              have kont6 : ∀ (H : Heap) (locs : List Loc), va_P D vwCl (W_X5 cI m0 m1 m2 m3 m4 m5 m6 m7 m8 m9 m10 m11 mr mc me mw mh mn mu ms mt md mz mi mk mo mj ml) H → va_D A (W_X5 cI m0 m1 m2 m3 m4 m5 m6 m7 m8 m9 m10 m11 mr mc me mw mh mn mu ms mt md mz mi mk mo mj ml) → va_S A s.heap H locs → ∀ ls : Array Slot, lv_has ls 5 [(4, .int v13_4), (3, .int v4_3), (0, .ref m0), (1, .int a1)] → W p l e (headSpec wsX5_explained rm_X5_explained).room s m ([.ref m0, .int a1] : List Value).toArray below meth c H locs 0 0 (MQ below (Q_X5_explained D cI m0 m1 m2 m3 m4 m5 m6 m7 m8 m9 m10 m11 mr mc me mw mh mn mu ms mt md mz mi mk mo mj ml a1 A) ([.ref m0, .int a1] : List Value).toArray s 0 0 A) (F0 m 57 ls [.int j6, .int v13_2]) := by
                intro H locs hP hD hS ls hl
                refine lv_ior hx hb dX5_explained_57 ?_
                refine lv_istore_n (lv' := [(2, .int (v13_2 ||| j6)), (4, .int v13_4), (3, .int v4_3), (0, .ref m0), (1, .int a1)]) hx hb dX5_explained_58 rfl hl (by decide) rfl (fun ls hl => ?_)
                refine lv_iinc (v := (v13_4 + 1)) (lv' := [(4, .int (v13_4 + 1)), (2, .int (v13_2 ||| j6)), (3, .int v4_3), (0, .ref m0), (1, .int a1)]) hx hb dX5_explained_59 hl (k := 1) rfl rfl (by decide) rfl (fun ls hl => ?_)
                refine lv_goto (tgt := 13) hx hb dX5_explained_62 (by decide) ?_
                exact ih _ _ hp he _ _ hP hD hS _ (lv_sub hl [0, 2, 1, 3, 4] rfl)
              replace he := hJ6
              replace hp := hpJ6
              refine lv_if_eq (tgt := 56) hx hb dX5_explained_27 (by decide) (fun c7 => ?_) (fun c7 => ?_)
              · replace hp := hp.1 c7
                replace he := he.trans (if_pos c7)
                refine lv_iconst (v := 0) hx hb dX5_explained_56 (by decide) ?_
                subst he
                exact kont6 _ _ hP hD hS _ (lv_sub hl [0, 1, 3, 4] rfl)
              · replace hp := hp.2 c7
                replace he := he.trans (if_neg c7)
                refine lv_iload_n hx hb dX5_explained_30 rfl (lv_at hl 1 rfl) ?_
                refine lv_iload hx hb dX5_explained_31 (lv_at hl 0 rfl) ?_
                refine lv_icmp_eq (tgt := 50) hx hb dX5_explained_33 (by decide) (fun c8 => ?_) (fun c8 => ?_)
                · replace hp := hp.1 c8
                  replace he := he.trans (if_pos c8)
                  refine lv_iconst (v := 1) hx hb dX5_explained_50 (by decide) ?_
                  refine lv_iload_n hx hb dX5_explained_51 rfl (lv_at hl 1 rfl) ?_
                  refine lv_ishl hx hb dX5_explained_52 ?_
                  refine lv_goto (tgt := 57) hx hb dX5_explained_53 (by decide) ?_
                  subst he
                  exact kont6 _ _ hP hD hS _ (lv_sub hl [0, 1, 3, 4] rfl)
                · replace hp := hp.2 c8
                  replace he := he.trans (if_neg c8)
                  refine lv_aload_n hx hb dX5_explained_36 rfl (lv_at hl 3 rfl) ?_
                  refine va_get (D := D) (ci := 5) (v := .ref m2) (C := RX5) (T := TX5) (N := 16) hx hb hts (by decide +kernel) hown hK hP 0 rfl rfl 1 (by decide) (hts (.fieldLink RX5 13 "AlarmgroveModel" "under" "[I") (by decide +kernel)) (fun _ h9 => h9) rfl dX5_explained_37 ?_
                  refine lv_iload_n hx hb dX5_explained_40 rfl (lv_at hl 1 rfl) ?_
                  have h9 := hp.1
                  replace hp := hp.2
                  refine va_iald hx hb hK hP 2 0 rfl rfl h9 dX5_explained_41 ?_
                  refine lv_iload hx hb dX5_explained_42 (lv_at hl 0 rfl) ?_
                  refine k_calli (S := Unit) (wc := ([] : va_W)) (wr := (W_X5 cI m0 m1 m2 m3 m4 m5 m6 m7 m8 m9 m10 m11 mr mc me mw mh mn mu ms mt md mz mi mk mo mj ml)) (w1 := fun u => ([] : va_W)) (fun u => (W_X5 cI m0 m1 m2 m3 m4 m5 m6 m7 m8 m9 m10 m11 mr mc me mw mh mn mu ms mt md mz mi mk mo mj ml)) hP hK hD hN hS hA [] [0, 1, 2, 3, 4, 5, 6, 7, 8, 9, 10, 11] rfl rfl (by decide) (by decide) (by decide) [0, 1, 2, 3, 4, 5, 6, 7, 8, 9, 10, 11] (by decide) (fun _ => rfl) (fun hg => va_runS (As := [.int (mu (v4_3).toNatClampNeg), .int v13_4]) (rest := [.int v13_2]) ⟨hx, hb, hml, hown, hts⟩ (c_X5_has l D cI _ (mu (v4_3).toNatClampNeg) v13_4) (va_cwS 2 hts gX5_explained_X5_has rfl rfl rfl (by decide +kernel) ⟨Nat.le_of_ble_eq_true rfl, Nat.le_of_ble_eq_true rfl⟩) ⟨PW.blind, fun U hU hW => ⟨rfl, hg U hU hW⟩⟩ rfl rfl hl.1 rfl (lv_room (Nat.le_of_ble_eq_true rfl)) dX5_explained_44 ⟨Nat.le_of_ble_eq_true rfl, Nat.le_of_ble_eq_true rfl⟩) (fun r10 u H locs hw hP hD hS => ?_)
                  obtain ⟨hw, hb10⟩ := hw
                  subst hw
                  refine lv_if_eq (tgt := 56) hx hb dX5_explained_47 (by decide) (fun c11 => ?_) (fun c11 => ?_)
                  · replace hp := hp.1 c11
                    replace he := he.trans (if_pos c11)
                    refine lv_iconst (v := 0) hx hb dX5_explained_56 (by decide) ?_
                    subst he
                    exact kont6 _ _ hP hD hS _ (lv_sub hl [0, 1, 3, 4] rfl)
                  · replace hp := hp.2 c11
                    replace he := he.trans (if_neg c11)
                    refine lv_iconst (v := 1) hx hb dX5_explained_50 (by decide) ?_
                    refine lv_iload_n hx hb dX5_explained_51 rfl (lv_at hl 1 rfl) ?_
                    refine lv_ishl hx hb dX5_explained_52 ?_
                    refine lv_goto (tgt := 57) hx hb dX5_explained_53 (by decide) ?_
                    subst he
                    exact kont6 _ _ hP hD hS _ (lv_sub hl [0, 1, 3, 4] rfl)
        exact loop3 15 v4_2 (0 : Int32) hpL3 hL3 _ _ hP hD hS _ (lv_sub hl [0, 1, 2, 3, 4] rfl)
  exact loop1 15 (0 : Int32) (0 : Int32) hpL1 hL1 _ _ hP hD hS _ (lv_sub hl [0, 1, 2, 3] rfl)
abbrev rm_X5_isBetter : Room := { frames := 1, cells := 0, slots := 0, locals := 22 }
abbrev Q_X5_isBetter (D : va_G) (cI : ClassId) (m0 m1 m2 m3 m4 m5 m6 m7 m8 m9 m10 m11 : Nat) (mr : Int32) (mc : Int32) (me : Int32) (mw : Int32) (mh : Int32) (mn : AA) (mu : AA) (ms : AA) (mt : AA) (md : AA) (mz : AA) (mi : AA) (mk : AA) (mo : AA) (mj : AA) (ml : AA) (a1 a2 : Int32) (A : Nat → Prop) : Array Value → State → Outcome → State → Prop := va_Qi (S := Unit) (fun r u => f_X5_isBetter mr a1 a2 = r ∧ (r = 0 ∨ r = 1)) (fun u t => QW D [(cI, .int)] A (W_X5 cI m0 m1 m2 m3 m4 m5 m6 m7 m8 m9 m10 m11 mr mc me mw mh mn mu ms mt md mz mi mk mo mj ml) t) A
set_option maxHeartbeats 4000000 in
set_option maxRecDepth 100000 in
theorem c_X5_isBetter (l : Launch)  (D : va_G) (cI : ClassId) (m0 m1 m2 m3 m4 m5 m6 m7 m8 m9 m10 m11 : Nat) (mr : Int32) (mc : Int32) (me : Int32) (mw : Int32) (mh : Int32) (mn : AA) (mu : AA) (ms : AA) (mt : AA) (md : AA) (mz : AA) (mi : AA) (mk : AA) (mo : AA) (mj : AA) (ml : AA) (sz : Nat) (a1 a2 : Int32) (hp : p_X5_isBetter mr a1 a2) : Met l yX5_isBetter wsX5_isBetter rm_X5_isBetter (va_Pc [.ref m0, .int a1, .int a2] (PW D [(cI, .int)] sz (W_X5 cI m0 m1 m2 m3 m4 m5 m6 m7 m8 m9 m10 m11 mr mc me mw mh mn mu ms mt md mz mi mk mo mj ml))) (Q_X5_isBetter D cI m0 m1 m2 m3 m4 m5 m6 m7 m8 m9 m10 m11 mr mc me mw mh mn mu ms mt md mz mi mk mo mj ml a1 a2 (va_A (W_X5 cI m0 m1 m2 m3 m4 m5 m6 m7 m8 m9 m10 m11 mr mc me mw mh mn mu ms mt md mz mi mk mo mj ml) sz)) 0 0 (va_A (W_X5 cI m0 m1 m2 m3 m4 m5 m6 m7 m8 m9 m10 m11 mr mc me mw mh mn mu ms mt md mz mi mk mo mj ml) sz) := by
  refine Met.ofW (cc := cX5_isBetter) (maxL := 5) (ret := (some .boolean)) (by decide) rfl ?_
  intro p e s m args below meth c s₁ B hml hv
  obtain ⟨rfl, hsz, hP, hK, hD0, hN⟩ := hv
  have hx := B.exec
  have hb := B.bytes
  have hr := B.returns
  have hts := atoms_spec (ws := wsX5_isBetter) B.pre
  have hown : s.vm.findClass RX5 = some m.cls := findClass_of_methodNamed B.named
  have hlocks := B.notSynchronized
  subst hsz
  have hD := hD0.self (sz := s.heap.size)
  generalize hAe : va_A (W_X5 cI m0 m1 m2 m3 m4 m5 m6 m7 m8 m9 m10 m11 mr mc me mw mh mn mu ms mt md mz mi mk mo mj ml) s.heap.size = A at hD ⊢
  have hA : ∀ q : Nat, s.heap.size ≤ q → A q := fun q h => by rw [← hAe]; exact Or.inr h
  have hS : va_S A s.heap s.heap [] := va_S.rf
  have hl := lv_entry ([.ref m0, .int a1, .int a2]) (n := 5) (Nat.le_of_ble_eq_true rfl)
  rw [lg_entry_eq]
  generalize (lg_sl ([.ref m0, .int a1, .int a2]) ++ List.replicate (5 - (lg_sl ([.ref m0, .int a1, .int a2])).length) Slot.unset).toArray = ls at hl ⊢
  have hl : lv_has ls 5 [(0, .ref m0), (1, .int a1), (2, .int a2)] := hl
  have he := f_X5_isBetter.eq_1 mr a1 a2
  replace hp := Eq.mp (p_X5_isBetter.eq_1 ..) hp
  refine lv_iload_n hx hb dX5_isBetter_0 rfl (lv_at hl 1 rfl) ?_
  refine lv_iload_n hx hb dX5_isBetter_1 rfl (lv_at hl 2 rfl) ?_
  refine lv_ixor hx hb dX5_isBetter_2 ?_
  refine lv_istore_n (lv' := [(3, .int (a1 ^^^ a2)), (0, .ref m0), (1, .int a1), (2, .int a2)]) hx hb dX5_isBetter_3 rfl hl (by decide) rfl (fun ls hl => ?_)
  refine lv_iload_n hx hb dX5_isBetter_4 rfl (lv_at hl 0 rfl) ?_
  refine lv_iload_n hx hb dX5_isBetter_5 rfl (lv_at hl 0 rfl) ?_
  refine lv_ineg hx hb dX5_isBetter_6 ?_
  refine lv_iand hx hb dX5_isBetter_7 ?_
  refine lv_istore (lv' := [(4, .int ((a1 ^^^ a2) &&& (-(a1 ^^^ a2)))), (3, .int (a1 ^^^ a2)), (0, .ref m0), (1, .int a1), (2, .int a2)]) hx hb dX5_isBetter_8 hl (by decide) rfl (fun ls hl => ?_)
  refine lv_iload_n hx hb dX5_isBetter_10 rfl (lv_at hl 3 rfl) ?_
  have hq1 := hp.1
  replace hp := hp.2
  refine k_calli (S := Unit) (wc := ([] : va_W)) (wr := (W_X5 cI m0 m1 m2 m3 m4 m5 m6 m7 m8 m9 m10 m11 mr mc me mw mh mn mu ms mt md mz mi mk mo mj ml)) (w1 := fun u => ([] : va_W)) (fun u => (W_X5 cI m0 m1 m2 m3 m4 m5 m6 m7 m8 m9 m10 m11 mr mc me mw mh mn mu ms mt md mz mi mk mo mj ml)) hP hK hD hN hS hA [] [0, 1, 2, 3, 4, 5, 6, 7, 8, 9, 10, 11] rfl rfl (by decide) (by decide) (by decide) [0, 1, 2, 3, 4, 5, 6, 7, 8, 9, 10, 11] (by decide) (fun _ => rfl) (fun hg => va_runS (As := [.int a1]) (rest := []) ⟨hx, hb, hml, hown, hts⟩ (c_X5_count l D cI _ a1 hq1) (va_cwS 1 hts gX5_isBetter_X5_count rfl rfl rfl (by decide +kernel) ⟨Nat.le_of_ble_eq_true rfl, Nat.le_of_ble_eq_true rfl⟩) ⟨PW.blind, fun U hU hW => ⟨rfl, hg U hU hW⟩⟩ rfl rfl hl.1 rfl (lv_room (Nat.le_of_ble_eq_true rfl)) dX5_isBetter_11 ⟨Nat.le_of_ble_eq_true rfl, Nat.le_of_ble_eq_true rfl⟩) (fun r1 u H locs hw hP hD hS => ?_)
  subst hw
  refine lv_iload_n hx hb dX5_isBetter_14 rfl (lv_at hl 4 rfl) ?_
  have hq2 := hp.1
  replace hp := hp.2
  refine k_calli (S := Unit) (wc := ([] : va_W)) (wr := (W_X5 cI m0 m1 m2 m3 m4 m5 m6 m7 m8 m9 m10 m11 mr mc me mw mh mn mu ms mt md mz mi mk mo mj ml)) (w1 := fun u => ([] : va_W)) (fun u => (W_X5 cI m0 m1 m2 m3 m4 m5 m6 m7 m8 m9 m10 m11 mr mc me mw mh mn mu ms mt md mz mi mk mo mj ml)) hP hK hD hN hS hA [] [0, 1, 2, 3, 4, 5, 6, 7, 8, 9, 10, 11] rfl rfl (by decide) (by decide) (by decide) [0, 1, 2, 3, 4, 5, 6, 7, 8, 9, 10, 11] (by decide) (fun _ => rfl) (fun hg => va_runS (As := [.int a2]) (rest := [.int (f_X5_count a1)]) ⟨hx, hb, hml, hown, hts⟩ (c_X5_count l D cI _ a2 hq2) (va_cwS 1 hts gX5_isBetter_X5_count rfl rfl rfl (by decide +kernel) ⟨Nat.le_of_ble_eq_true rfl, Nat.le_of_ble_eq_true rfl⟩) ⟨PW.blind, fun U hU hW => ⟨rfl, hg U hU hW⟩⟩ rfl rfl hl.1 rfl (lv_room (Nat.le_of_ble_eq_true rfl)) dX5_isBetter_15 ⟨Nat.le_of_ble_eq_true rfl, Nat.le_of_ble_eq_true rfl⟩) (fun r2 u H locs hw hP hD hS => ?_)
  subst hw
  refine lv_icmp_eq (tgt := 38) hx hb dX5_isBetter_18 (by decide) (fun c3 => ?_) (fun c3 => ?_)
  · replace hp := hp.1 c3
    replace he := he.trans (if_pos c3)
    refine lv_iload_n hx hb dX5_isBetter_38 rfl (lv_at hl 3 rfl) ?_
    refine lv_aload_n hx hb dX5_isBetter_39 rfl (lv_at hl 2 rfl) ?_
    refine va_get (D := D) (ci := 5) (v := .int mr) (C := RX5) (T := TX5) (N := 16) hx hb hts (by decide +kernel) hown hK hP 0 rfl rfl 2 (by decide) (hts (.fieldLink RX5 68 "AlarmgroveModel" "raised" "I") (by decide +kernel)) (fun _ h9 => h9) rfl dX5_isBetter_40 ?_
    refine lv_iand hx hb dX5_isBetter_43 ?_
    have hq4 := hp.1
    replace hp := hp.2
    refine k_calli (S := Unit) (wc := ([] : va_W)) (wr := (W_X5 cI m0 m1 m2 m3 m4 m5 m6 m7 m8 m9 m10 m11 mr mc me mw mh mn mu ms mt md mz mi mk mo mj ml)) (w1 := fun u => ([] : va_W)) (fun u => (W_X5 cI m0 m1 m2 m3 m4 m5 m6 m7 m8 m9 m10 m11 mr mc me mw mh mn mu ms mt md mz mi mk mo mj ml)) hP hK hD hN hS hA [] [0, 1, 2, 3, 4, 5, 6, 7, 8, 9, 10, 11] rfl rfl (by decide) (by decide) (by decide) [0, 1, 2, 3, 4, 5, 6, 7, 8, 9, 10, 11] (by decide) (fun _ => rfl) (fun hg => va_runS (As := [.int (a1 &&& mr)]) (rest := []) ⟨hx, hb, hml, hown, hts⟩ (c_X5_count l D cI _ (a1 &&& mr) hq4) (va_cwS 1 hts gX5_isBetter_X5_count rfl rfl rfl (by decide +kernel) ⟨Nat.le_of_ble_eq_true rfl, Nat.le_of_ble_eq_true rfl⟩) ⟨PW.blind, fun U hU hW => ⟨rfl, hg U hU hW⟩⟩ rfl rfl hl.1 rfl (lv_room (Nat.le_of_ble_eq_true rfl)) dX5_isBetter_44 ⟨Nat.le_of_ble_eq_true rfl, Nat.le_of_ble_eq_true rfl⟩) (fun r4 u H locs hw hP hD hS => ?_)
    subst hw
    refine lv_iload_n hx hb dX5_isBetter_47 rfl (lv_at hl 4 rfl) ?_
    refine lv_aload_n hx hb dX5_isBetter_48 rfl (lv_at hl 2 rfl) ?_
    refine va_get (D := D) (ci := 5) (v := .int mr) (C := RX5) (T := TX5) (N := 16) hx hb hts (by decide +kernel) hown hK hP 0 rfl rfl 2 (by decide) (hts (.fieldLink RX5 68 "AlarmgroveModel" "raised" "I") (by decide +kernel)) (fun _ h9 => h9) rfl dX5_isBetter_49 ?_
    refine lv_iand hx hb dX5_isBetter_52 ?_
    have hq5 := hp.1
    replace hp := hp.2
    refine k_calli (S := Unit) (wc := ([] : va_W)) (wr := (W_X5 cI m0 m1 m2 m3 m4 m5 m6 m7 m8 m9 m10 m11 mr mc me mw mh mn mu ms mt md mz mi mk mo mj ml)) (w1 := fun u => ([] : va_W)) (fun u => (W_X5 cI m0 m1 m2 m3 m4 m5 m6 m7 m8 m9 m10 m11 mr mc me mw mh mn mu ms mt md mz mi mk mo mj ml)) hP hK hD hN hS hA [] [0, 1, 2, 3, 4, 5, 6, 7, 8, 9, 10, 11] rfl rfl (by decide) (by decide) (by decide) [0, 1, 2, 3, 4, 5, 6, 7, 8, 9, 10, 11] (by decide) (fun _ => rfl) (fun hg => va_runS (As := [.int (a2 &&& mr)]) (rest := [.int (f_X5_count (a1 &&& mr))]) ⟨hx, hb, hml, hown, hts⟩ (c_X5_count l D cI _ (a2 &&& mr) hq5) (va_cwS 1 hts gX5_isBetter_X5_count rfl rfl rfl (by decide +kernel) ⟨Nat.le_of_ble_eq_true rfl, Nat.le_of_ble_eq_true rfl⟩) ⟨PW.blind, fun U hU hW => ⟨rfl, hg U hU hW⟩⟩ rfl rfl hl.1 rfl (lv_room (Nat.le_of_ble_eq_true rfl)) dX5_isBetter_53 ⟨Nat.le_of_ble_eq_true rfl, Nat.le_of_ble_eq_true rfl⟩) (fun r5 u H locs hw hP hD hS => ?_)
    subst hw
    obtain ⟨j6, hJ6⟩ : ∃ z : Int32, z = (if (f_X5_count (a1 &&& mr)) = (f_X5_count (a2 &&& mr)) then (if (a1 &&& ((a1 ^^^ a2) &&& (-(a1 ^^^ a2)))) = 0 then (0 : Int32) else (1 : Int32)) else (if (f_X5_count (a1 &&& mr)) ≤ (f_X5_count (a2 &&& mr)) then (0 : Int32) else (1 : Int32))) := ⟨_, rfl⟩
    rw [← hJ6] at he
    try dsimp only at he
    have hpJ6 := hp.1
    replace hp := hp.2 _  hJ6.symm
    have kont6 : (j6 = 0 ∨ j6 = 1) → ∀ (H : Heap) (locs : List Loc), va_P D vwCl (W_X5 cI m0 m1 m2 m3 m4 m5 m6 m7 m8 m9 m10 m11 mr mc me mw mh mn mu ms mt md mz mi mk mo mj ml) H → va_D A (W_X5 cI m0 m1 m2 m3 m4 m5 m6 m7 m8 m9 m10 m11 mr mc me mw mh mn mu ms mt md mz mi mk mo mj ml) → va_S A s.heap H locs → ∀ ls : Array Slot, lv_has ls 5 [] → W p l e (headSpec wsX5_isBetter rm_X5_isBetter).room s m ([.ref m0, .int a1, .int a2] : List Value).toArray below meth c H locs 0 0 (MQ below (Q_X5_isBetter D cI m0 m1 m2 m3 m4 m5 m6 m7 m8 m9 m10 m11 mr mc me mw mh mn mu ms mt md mz mi mk mo mj ml a1 a2 A) ([.ref m0, .int a1, .int a2] : List Value).toArray s 0 0 A) (F0 m 100 ls [.int j6]) := by
      intro hb6 H locs hP hD hS ls hl
      exact W.zret (ty := .boolean) (v := j6) hx hb hr (by rcases hb6 with h9 | h9 <;> rw [h9] <;> rfl) (fun t ht hW => ⟨⟨j6, (), rfl, ⟨he, hb6⟩, by rw [ht]; exact hP, va_K.moved hW.alike hK, hD⟩, hS.F ht⟩) hS.2.2 dX5_isBetter_100
    replace he := hJ6
    replace hp := hpJ6
    refine lv_icmp_eq (tgt := 88) hx hb dX5_isBetter_56 (by decide) (fun c7 => ?_) (fun c7 => ?_)
    · replace hp := hp.1 c7
      replace he := he.trans (if_pos c7)
      refine lv_iload_n hx hb dX5_isBetter_88 rfl (lv_at hl 3 rfl) ?_
      refine lv_iload hx hb dX5_isBetter_89 (lv_at hl 0 rfl) ?_
      refine lv_iand hx hb dX5_isBetter_91 ?_
      refine lv_if_eq (tgt := 99) hx hb dX5_isBetter_92 (by decide) (fun c8 => ?_) (fun c8 => ?_)
      · replace hp := hp.1 c8
        replace he := he.trans (if_pos c8)
        refine lv_iconst (v := 0) hx hb dX5_isBetter_99 (by decide) ?_
        subst he
        exact kont6 (Or.inl rfl) _ _ hP hD hS _ (lv_sub hl [] rfl)
      · replace hp := hp.2 c8
        replace he := he.trans (if_neg c8)
        refine lv_iconst (v := 1) hx hb dX5_isBetter_95 (by decide) ?_
        refine lv_goto (tgt := 100) hx hb dX5_isBetter_96 (by decide) ?_
        subst he
        exact kont6 (Or.inr rfl) _ _ hP hD hS _ (lv_sub hl [] rfl)
    · replace hp := hp.2 c7
      replace he := he.trans (if_neg c7)
      refine lv_iload_n hx hb dX5_isBetter_59 rfl (lv_at hl 3 rfl) ?_
      refine lv_aload_n hx hb dX5_isBetter_60 rfl (lv_at hl 2 rfl) ?_
      refine va_get (D := D) (ci := 5) (v := .int mr) (C := RX5) (T := TX5) (N := 16) hx hb hts (by decide +kernel) hown hK hP 0 rfl rfl 2 (by decide) (hts (.fieldLink RX5 68 "AlarmgroveModel" "raised" "I") (by decide +kernel)) (fun _ h9 => h9) rfl dX5_isBetter_61 ?_
      refine lv_iand hx hb dX5_isBetter_64 ?_
      have hq9 := hp.1
      replace hp := hp.2
      refine k_calli (S := Unit) (wc := ([] : va_W)) (wr := (W_X5 cI m0 m1 m2 m3 m4 m5 m6 m7 m8 m9 m10 m11 mr mc me mw mh mn mu ms mt md mz mi mk mo mj ml)) (w1 := fun u => ([] : va_W)) (fun u => (W_X5 cI m0 m1 m2 m3 m4 m5 m6 m7 m8 m9 m10 m11 mr mc me mw mh mn mu ms mt md mz mi mk mo mj ml)) hP hK hD hN hS hA [] [0, 1, 2, 3, 4, 5, 6, 7, 8, 9, 10, 11] rfl rfl (by decide) (by decide) (by decide) [0, 1, 2, 3, 4, 5, 6, 7, 8, 9, 10, 11] (by decide) (fun _ => rfl) (fun hg => va_runS (As := [.int (a1 &&& mr)]) (rest := []) ⟨hx, hb, hml, hown, hts⟩ (c_X5_count l D cI _ (a1 &&& mr) hq9) (va_cwS 1 hts gX5_isBetter_X5_count rfl rfl rfl (by decide +kernel) ⟨Nat.le_of_ble_eq_true rfl, Nat.le_of_ble_eq_true rfl⟩) ⟨PW.blind, fun U hU hW => ⟨rfl, hg U hU hW⟩⟩ rfl rfl hl.1 rfl (lv_room (Nat.le_of_ble_eq_true rfl)) dX5_isBetter_65 ⟨Nat.le_of_ble_eq_true rfl, Nat.le_of_ble_eq_true rfl⟩) (fun r9 u H locs hw hP hD hS => ?_)
      subst hw
      refine lv_iload_n hx hb dX5_isBetter_68 rfl (lv_at hl 4 rfl) ?_
      refine lv_aload_n hx hb dX5_isBetter_69 rfl (lv_at hl 2 rfl) ?_
      refine va_get (D := D) (ci := 5) (v := .int mr) (C := RX5) (T := TX5) (N := 16) hx hb hts (by decide +kernel) hown hK hP 0 rfl rfl 2 (by decide) (hts (.fieldLink RX5 68 "AlarmgroveModel" "raised" "I") (by decide +kernel)) (fun _ h9 => h9) rfl dX5_isBetter_70 ?_
      refine lv_iand hx hb dX5_isBetter_73 ?_
      have hq10 := hp.1
      replace hp := hp.2
      refine k_calli (S := Unit) (wc := ([] : va_W)) (wr := (W_X5 cI m0 m1 m2 m3 m4 m5 m6 m7 m8 m9 m10 m11 mr mc me mw mh mn mu ms mt md mz mi mk mo mj ml)) (w1 := fun u => ([] : va_W)) (fun u => (W_X5 cI m0 m1 m2 m3 m4 m5 m6 m7 m8 m9 m10 m11 mr mc me mw mh mn mu ms mt md mz mi mk mo mj ml)) hP hK hD hN hS hA [] [0, 1, 2, 3, 4, 5, 6, 7, 8, 9, 10, 11] rfl rfl (by decide) (by decide) (by decide) [0, 1, 2, 3, 4, 5, 6, 7, 8, 9, 10, 11] (by decide) (fun _ => rfl) (fun hg => va_runS (As := [.int (a2 &&& mr)]) (rest := [.int (f_X5_count (a1 &&& mr))]) ⟨hx, hb, hml, hown, hts⟩ (c_X5_count l D cI _ (a2 &&& mr) hq10) (va_cwS 1 hts gX5_isBetter_X5_count rfl rfl rfl (by decide +kernel) ⟨Nat.le_of_ble_eq_true rfl, Nat.le_of_ble_eq_true rfl⟩) ⟨PW.blind, fun U hU hW => ⟨rfl, hg U hU hW⟩⟩ rfl rfl hl.1 rfl (lv_room (Nat.le_of_ble_eq_true rfl)) dX5_isBetter_74 ⟨Nat.le_of_ble_eq_true rfl, Nat.le_of_ble_eq_true rfl⟩) (fun r10 u H locs hw hP hD hS => ?_)
      subst hw
      refine lv_icmp_le (tgt := 84) hx hb dX5_isBetter_77 (by decide) (fun c11 => ?_) (fun c11 => ?_)
      · replace hp := hp.1 c11
        replace he := he.trans (if_pos c11)
        refine lv_iconst (v := 0) hx hb dX5_isBetter_84 (by decide) ?_
        refine lv_goto (tgt := 100) hx hb dX5_isBetter_85 (by decide) ?_
        subst he
        exact kont6 (Or.inl rfl) _ _ hP hD hS _ (lv_sub hl [] rfl)
      · replace hp := hp.2 c11
        replace he := he.trans (if_neg c11)
        refine lv_iconst (v := 1) hx hb dX5_isBetter_80 (by decide) ?_
        refine lv_goto (tgt := 100) hx hb dX5_isBetter_81 (by decide) ?_
        subst he
        exact kont6 (Or.inr rfl) _ _ hP hD hS _ (lv_sub hl [] rfl)
  · replace hp := hp.2 c3
    replace he := he.trans (if_neg c3)
    refine lv_iload_n hx hb dX5_isBetter_21 rfl (lv_at hl 3 rfl) ?_
    have hq12 := hp.1
    replace hp := hp.2
    refine k_calli (S := Unit) (wc := ([] : va_W)) (wr := (W_X5 cI m0 m1 m2 m3 m4 m5 m6 m7 m8 m9 m10 m11 mr mc me mw mh mn mu ms mt md mz mi mk mo mj ml)) (w1 := fun u => ([] : va_W)) (fun u => (W_X5 cI m0 m1 m2 m3 m4 m5 m6 m7 m8 m9 m10 m11 mr mc me mw mh mn mu ms mt md mz mi mk mo mj ml)) hP hK hD hN hS hA [] [0, 1, 2, 3, 4, 5, 6, 7, 8, 9, 10, 11] rfl rfl (by decide) (by decide) (by decide) [0, 1, 2, 3, 4, 5, 6, 7, 8, 9, 10, 11] (by decide) (fun _ => rfl) (fun hg => va_runS (As := [.int a1]) (rest := []) ⟨hx, hb, hml, hown, hts⟩ (c_X5_count l D cI _ a1 hq12) (va_cwS 1 hts gX5_isBetter_X5_count rfl rfl rfl (by decide +kernel) ⟨Nat.le_of_ble_eq_true rfl, Nat.le_of_ble_eq_true rfl⟩) ⟨PW.blind, fun U hU hW => ⟨rfl, hg U hU hW⟩⟩ rfl rfl hl.1 rfl (lv_room (Nat.le_of_ble_eq_true rfl)) dX5_isBetter_22 ⟨Nat.le_of_ble_eq_true rfl, Nat.le_of_ble_eq_true rfl⟩) (fun r12 u H locs hw hP hD hS => ?_)
    subst hw
    refine lv_iload_n hx hb dX5_isBetter_25 rfl (lv_at hl 4 rfl) ?_
    have hq13 := hp.1
    replace hp := hp.2
    refine k_calli (S := Unit) (wc := ([] : va_W)) (wr := (W_X5 cI m0 m1 m2 m3 m4 m5 m6 m7 m8 m9 m10 m11 mr mc me mw mh mn mu ms mt md mz mi mk mo mj ml)) (w1 := fun u => ([] : va_W)) (fun u => (W_X5 cI m0 m1 m2 m3 m4 m5 m6 m7 m8 m9 m10 m11 mr mc me mw mh mn mu ms mt md mz mi mk mo mj ml)) hP hK hD hN hS hA [] [0, 1, 2, 3, 4, 5, 6, 7, 8, 9, 10, 11] rfl rfl (by decide) (by decide) (by decide) [0, 1, 2, 3, 4, 5, 6, 7, 8, 9, 10, 11] (by decide) (fun _ => rfl) (fun hg => va_runS (As := [.int a2]) (rest := [.int (f_X5_count a1)]) ⟨hx, hb, hml, hown, hts⟩ (c_X5_count l D cI _ a2 hq13) (va_cwS 1 hts gX5_isBetter_X5_count rfl rfl rfl (by decide +kernel) ⟨Nat.le_of_ble_eq_true rfl, Nat.le_of_ble_eq_true rfl⟩) ⟨PW.blind, fun U hU hW => ⟨rfl, hg U hU hW⟩⟩ rfl rfl hl.1 rfl (lv_room (Nat.le_of_ble_eq_true rfl)) dX5_isBetter_26 ⟨Nat.le_of_ble_eq_true rfl, Nat.le_of_ble_eq_true rfl⟩) (fun r13 u H locs hw hP hD hS => ?_)
    subst hw
    obtain ⟨j14, hJ14⟩ : ∃ z : Int32, z = (if (f_X5_count a2) ≤ (f_X5_count a1) then (0 : Int32) else (1 : Int32)) := ⟨_, rfl⟩
    rw [← hJ14] at he
    try dsimp only at he
    have hpJ14 := hp.1
    replace hp := hp.2 _  hJ14.symm
    have kont14 : (j14 = 0 ∨ j14 = 1) → ∀ (H : Heap) (locs : List Loc), va_P D vwCl (W_X5 cI m0 m1 m2 m3 m4 m5 m6 m7 m8 m9 m10 m11 mr mc me mw mh mn mu ms mt md mz mi mk mo mj ml) H → va_D A (W_X5 cI m0 m1 m2 m3 m4 m5 m6 m7 m8 m9 m10 m11 mr mc me mw mh mn mu ms mt md mz mi mk mo mj ml) → va_S A s.heap H locs → ∀ ls : Array Slot, lv_has ls 5 [] → W p l e (headSpec wsX5_isBetter rm_X5_isBetter).room s m ([.ref m0, .int a1, .int a2] : List Value).toArray below meth c H locs 0 0 (MQ below (Q_X5_isBetter D cI m0 m1 m2 m3 m4 m5 m6 m7 m8 m9 m10 m11 mr mc me mw mh mn mu ms mt md mz mi mk mo mj ml a1 a2 A) ([.ref m0, .int a1, .int a2] : List Value).toArray s 0 0 A) (F0 m 37 ls [.int j14]) := by
      intro hb14 H locs hP hD hS ls hl
      exact W.zret (ty := .boolean) (v := j14) hx hb hr (by rcases hb14 with h9 | h9 <;> rw [h9] <;> rfl) (fun t ht hW => ⟨⟨j14, (), rfl, ⟨he, hb14⟩, by rw [ht]; exact hP, va_K.moved hW.alike hK, hD⟩, hS.F ht⟩) hS.2.2 dX5_isBetter_37
    replace he := hJ14
    replace hp := hpJ14
    refine lv_icmp_ge (tgt := 36) hx hb dX5_isBetter_29 (by decide) (fun c15 => ?_) (fun c15 => ?_)
    · replace hp := hp.1 c15
      replace he := he.trans (if_pos c15)
      refine lv_iconst (v := 0) hx hb dX5_isBetter_36 (by decide) ?_
      subst he
      exact kont14 (Or.inl rfl) _ _ hP hD hS _ (lv_sub hl [] rfl)
    · replace hp := hp.2 c15
      replace he := he.trans (if_neg c15)
      refine lv_iconst (v := 1) hx hb dX5_isBetter_32 (by decide) ?_
      refine lv_goto (tgt := 37) hx hb dX5_isBetter_33 (by decide) ?_
      subst he
      exact kont14 (Or.inr rfl) _ _ hP hD hS _ (lv_sub hl [] rfl)
abbrev rm_X5_best : Room := { frames := 2, cells := 0, slots := 0, locals := 46 }
abbrev Q_X5_best (D : va_G) (cI : ClassId) (m0 m1 m2 m3 m4 m5 m6 m7 m8 m9 m10 m11 : Nat) (mr : Int32) (mc : Int32) (me : Int32) (mw : Int32) (mh : Int32) (mn : AA) (mu : AA) (ms : AA) (mt : AA) (md : AA) (mz : AA) (mi : AA) (mk : AA) (mo : AA) (mj : AA) (ml : AA) (A : Nat → Prop) : Array Value → State → Outcome → State → Prop := va_Qi (S := Unit) (fun r u => f_X5_best mr mn mu = r) (fun u t => QW D [(cI, .int)] A (W_X5 cI m0 m1 m2 m3 m4 m5 m6 m7 m8 m9 m10 m11 mr mc me mw mh mn mu ms mt md mz mi mk mo mj ml) t) A
set_option maxHeartbeats 4000000 in
set_option maxRecDepth 100000 in
theorem c_X5_best (l : Launch)  (D : va_G) (cI : ClassId) (m0 m1 m2 m3 m4 m5 m6 m7 m8 m9 m10 m11 : Nat) (mr : Int32) (mc : Int32) (me : Int32) (mw : Int32) (mh : Int32) (mn : AA) (mu : AA) (ms : AA) (mt : AA) (md : AA) (mz : AA) (mi : AA) (mk : AA) (mo : AA) (mj : AA) (ml : AA) (sz : Nat) (hp : p_X5_best mr mn mu) : Met l yX5_best wsX5_best rm_X5_best (va_Pc [.ref m0] (PW D [(cI, .int)] sz (W_X5 cI m0 m1 m2 m3 m4 m5 m6 m7 m8 m9 m10 m11 mr mc me mw mh mn mu ms mt md mz mi mk mo mj ml))) (Q_X5_best D cI m0 m1 m2 m3 m4 m5 m6 m7 m8 m9 m10 m11 mr mc me mw mh mn mu ms mt md mz mi mk mo mj ml (va_A (W_X5 cI m0 m1 m2 m3 m4 m5 m6 m7 m8 m9 m10 m11 mr mc me mw mh mn mu ms mt md mz mi mk mo mj ml) sz)) 0 0 (va_A (W_X5 cI m0 m1 m2 m3 m4 m5 m6 m7 m8 m9 m10 m11 mr mc me mw mh mn mu ms mt md mz mi mk mo mj ml) sz) := by
  refine Met.ofW (cc := cX5_best) (maxL := 4) (ret := (some .int)) (by decide) rfl ?_
  intro p e s m args below meth c s₁ B hml hv
  obtain ⟨rfl, hsz, hP, hK, hD0, hN⟩ := hv
  have hx := B.exec
  have hb := B.bytes
  have hr := B.returns
  have hts := atoms_spec (ws := wsX5_best) B.pre
  have hown : s.vm.findClass RX5 = some m.cls := findClass_of_methodNamed B.named
  have hlocks := B.notSynchronized
  subst hsz
  have hD := hD0.self (sz := s.heap.size)
  generalize hAe : va_A (W_X5 cI m0 m1 m2 m3 m4 m5 m6 m7 m8 m9 m10 m11 mr mc me mw mh mn mu ms mt md mz mi mk mo mj ml) s.heap.size = A at hD ⊢
  have hA : ∀ q : Nat, s.heap.size ≤ q → A q := fun q h => by rw [← hAe]; exact Or.inr h
  have hS : va_S A s.heap s.heap [] := va_S.rf
  have hl := lv_entry ([.ref m0]) (n := 4) (Nat.le_of_ble_eq_true rfl)
  rw [lg_entry_eq]
  generalize (lg_sl ([.ref m0]) ++ List.replicate (4 - (lg_sl ([.ref m0])).length) Slot.unset).toArray = ls at hl ⊢
  have hl : lv_has ls 4 [(0, .ref m0)] := hl
  have he := f_X5_best.eq_1 mr mn mu
  replace hp := Eq.mp (p_X5_best.eq_1 ..) hp
  refine lv_iconst (v := 0) hx hb dX5_best_0 (by decide) ?_
  refine lv_istore_n (lv' := [(1, .int 0), (0, .ref m0)]) hx hb dX5_best_1 rfl hl (by decide) rfl (fun ls hl => ?_)
  refine lv_iconst (v := 0) hx hb dX5_best_2 (by decide) ?_
  refine lv_istore_n (lv' := [(2, .int 0), (1, .int 0), (0, .ref m0)]) hx hb dX5_best_3 rfl hl (by decide) rfl (fun ls hl => ?_)
  obtain ⟨⟨r1_v4_1, r1_v4_2⟩, hL1⟩ : ∃ z, z = f_X5_best_L4 mr mn 15 (0 : Int32) (0 : Int32) := ⟨_, rfl⟩
  rw [← hL1] at he
  try dsimp only at he
  have hpL1 := hp.1
  replace hp := hp.2 _ _ hL1.symm
  have kont1 : ∀ (x1_v4_1 : Int32) (x1_v4_2 : Int32), (r1_v4_1, r1_v4_2) = (x1_v4_1, x1_v4_2) → ∀ (H : Heap) (locs : List Loc), va_P D vwCl (W_X5 cI m0 m1 m2 m3 m4 m5 m6 m7 m8 m9 m10 m11 mr mc me mw mh mn mu ms mt md mz mi mk mo mj ml) H → va_D A (W_X5 cI m0 m1 m2 m3 m4 m5 m6 m7 m8 m9 m10 m11 mr mc me mw mh mn mu ms mt md mz mi mk mo mj ml) → va_S A s.heap H locs → ∀ ls : Array Slot, lv_has ls 4 [(1, .int x1_v4_1), (0, .ref m0)] → W p l e (headSpec wsX5_best rm_X5_best).room s m ([.ref m0] : List Value).toArray below meth c H locs 0 0 (MQ below (Q_X5_best D cI m0 m1 m2 m3 m4 m5 m6 m7 m8 m9 m10 m11 mr mc me mw mh mn mu ms mt md mz mi mk mo mj ml A) ([.ref m0] : List Value).toArray s 0 0 A) (F0 m 34 ls []) := by
    intro x1_v4_1 x1_v4_2 hxe H locs hP hD hS ls hl
    simp only [Prod.mk.injEq] at hxe
    obtain ⟨rfl, rfl⟩ := hxe
    refine lv_aload_n hx hb dX5_best_34 rfl (lv_at hl 1 rfl) ?_
    refine va_get (D := D) (ci := 5) (v := .int mr) (C := RX5) (T := TX5) (N := 16) hx hb hts (by decide +kernel) hown hK hP 0 rfl rfl 2 (by decide) (hts (.fieldLink RX5 68 "AlarmgroveModel" "raised" "I") (by decide +kernel)) (fun _ h9 => h9) rfl dX5_best_35 ?_
    refine lv_istore_n (lv' := [(2, .int mr), (1, .int r1_v4_1), (0, .ref m0)]) hx hb dX5_best_38 rfl hl (by decide) rfl (fun ls hl => ?_)
    refine lv_iload_n hx hb dX5_best_39 rfl (lv_at hl 1 rfl) ?_
    refine lv_istore_n (lv' := [(3, .int r1_v4_1), (2, .int mr), (1, .int r1_v4_1), (0, .ref m0)]) hx hb dX5_best_40 rfl hl (by decide) rfl (fun ls hl => ?_)
    obtain ⟨⟨r6_v41_2, r6_v41_3⟩, hL6⟩ : ∃ z, z = f_X5_best_L41 mr mu r1_v4_1 16385 mr r1_v4_1 := ⟨_, rfl⟩
    rw [← hL6] at he
    try dsimp only at he
    have hpL6 := hp.1
    replace hp := hp.2 _ _ hL6.symm
    have kont6 : ∀ (x6_v41_2 : Int32) (x6_v41_3 : Int32), (r6_v41_2, r6_v41_3) = (x6_v41_2, x6_v41_3) → ∀ (H : Heap) (locs : List Loc), va_P D vwCl (W_X5 cI m0 m1 m2 m3 m4 m5 m6 m7 m8 m9 m10 m11 mr mc me mw mh mn mu ms mt md mz mi mk mo mj ml) H → va_D A (W_X5 cI m0 m1 m2 m3 m4 m5 m6 m7 m8 m9 m10 m11 mr mc me mw mh mn mu ms mt md mz mi mk mo mj ml) → va_S A s.heap H locs → ∀ ls : Array Slot, lv_has ls 4 [(2, .int x6_v41_2), (0, .ref m0)] → W p l e (headSpec wsX5_best rm_X5_best).room s m ([.ref m0] : List Value).toArray below meth c H locs 0 0 (MQ below (Q_X5_best D cI m0 m1 m2 m3 m4 m5 m6 m7 m8 m9 m10 m11 mr mc me mw mh mn mu ms mt md mz mi mk mo mj ml A) ([.ref m0] : List Value).toArray s 0 0 A) (F0 m 87 ls []) := by
      intro x6_v41_2 x6_v41_3 hxe H locs hP hD hS ls hl
      simp only [Prod.mk.injEq] at hxe
      obtain ⟨rfl, rfl⟩ := hxe
      refine lv_aload_n hx hb dX5_best_87 rfl (lv_at hl 1 rfl) ?_
      refine va_get (D := D) (ci := 5) (v := .int mr) (C := RX5) (T := TX5) (N := 16) hx hb hts (by decide +kernel) hown hK hP 0 rfl rfl 2 (by decide) (hts (.fieldLink RX5 68 "AlarmgroveModel" "raised" "I") (by decide +kernel)) (fun _ h9 => h9) rfl dX5_best_88 ?_
      obtain ⟨j13, hJ13⟩ : ∃ z : Int32, z = (if mr = 0 then (0 : Int32) else r6_v41_2) := ⟨_, rfl⟩
      rw [← hJ13] at he
      try dsimp only at he
      have hpJ13 := hp.1
      replace hp := hp.2 _  hJ13.symm
      have kont13 : ∀ (H : Heap) (locs : List Loc), va_P D vwCl (W_X5 cI m0 m1 m2 m3 m4 m5 m6 m7 m8 m9 m10 m11 mr mc me mw mh mn mu ms mt md mz mi mk mo mj ml) H → va_D A (W_X5 cI m0 m1 m2 m3 m4 m5 m6 m7 m8 m9 m10 m11 mr mc me mw mh mn mu ms mt md mz mi mk mo mj ml) → va_S A s.heap H locs → ∀ ls : Array Slot, lv_has ls 4 [] → W p l e (headSpec wsX5_best rm_X5_best).room s m ([.ref m0] : List Value).toArray below meth c H locs 0 0 (MQ below (Q_X5_best D cI m0 m1 m2 m3 m4 m5 m6 m7 m8 m9 m10 m11 mr mc me mw mh mn mu ms mt md mz mi mk mo mj ml A) ([.ref m0] : List Value).toArray s 0 0 A) (F0 m 99 ls [.int j13]) := by
        intro H locs hP hD hS ls hl
        exact W.iret (v := j13) hx hb hr (fun t ht hW => ⟨⟨j13, (), rfl, he, by rw [ht]; exact hP, va_K.moved hW.alike hK, hD⟩, hS.F ht⟩) hS.2.2 dX5_best_99
      replace he := hJ13
      replace hp := hpJ13
      refine lv_if_ne (tgt := 98) hx hb dX5_best_91 (by decide) (fun c14 => ?_) (fun c14 => ?_)
      · replace hp := hp.2 c14
        replace he := he.trans (if_neg c14)
        refine lv_iload_n hx hb dX5_best_98 rfl (lv_at hl 0 rfl) ?_
        subst he
        exact kont13 _ _ hP hD hS _ (lv_sub hl [] rfl)
      · replace hp := hp.1 c14
        replace he := he.trans (if_pos c14)
        refine lv_iconst (v := 0) hx hb dX5_best_94 (by decide) ?_
        refine lv_goto (tgt := 99) hx hb dX5_best_95 (by decide) ?_
        subst he
        exact kont13 _ _ hP hD hS _ (lv_sub hl [] rfl)
    have loop6 : ∀ (n : Nat) (v41_2 : Int32) (v41_3 : Int32), p_X5_best_L41 mr mu r1_v4_1 n v41_2 v41_3 → (r6_v41_2, r6_v41_3) = f_X5_best_L41 mr mu r1_v4_1 n v41_2 v41_3 → ∀ (H : Heap) (locs : List Loc), va_P D vwCl (W_X5 cI m0 m1 m2 m3 m4 m5 m6 m7 m8 m9 m10 m11 mr mc me mw mh mn mu ms mt md mz mi mk mo mj ml) H → va_D A (W_X5 cI m0 m1 m2 m3 m4 m5 m6 m7 m8 m9 m10 m11 mr mc me mw mh mn mu ms mt md mz mi mk mo mj ml) → va_S A s.heap H locs → ∀ ls : Array Slot, lv_has ls 4 [(3, .int v41_3), (2, .int v41_2), (1, .int r1_v4_1), (0, .ref m0)] → W p l e (headSpec wsX5_best rm_X5_best).room s m ([.ref m0] : List Value).toArray below meth c H locs 0 0 (MQ below (Q_X5_best D cI m0 m1 m2 m3 m4 m5 m6 m7 m8 m9 m10 m11 mr mc me mw mh mn mu ms mt md mz mi mk mo mj ml A) ([.ref m0] : List Value).toArray s 0 0 A) (F0 m 41 ls []) := by
      intro n
      induction n with
      | zero => exact fun _ _ hp => hp.elim
      | succ n ih =>
        intro v41_2 v41_3 hp he H locs hP hD hS ls hl
        replace hp := Eq.mp (p_X5_best_L41.eq_2 ..) hp
        replace he := he.trans (f_X5_best_L41.eq_2 ..)
        refine lv_iload_n hx hb dX5_best_41 rfl (lv_at hl 0 rfl) ?_
        refine lv_if_le (tgt := 87) hx hb dX5_best_42 (by decide) (fun c7 => ?_) (fun c7 => ?_)
        · replace hp := hp.1 c7
          replace he := he.trans (if_pos c7)
          exact kont6 _ _ he _ _ hP hD hS _ (lv_sub hl [1, 3] rfl)
        · replace hp := hp.2 c7
          replace he := he.trans (if_neg c7)
          refine lv_iload_n hx hb dX5_best_45 rfl (lv_at hl 0 rfl) ?_
          refine lv_iload_n hx hb dX5_best_46 rfl (lv_at hl 1 rfl) ?_
          refine lv_icmp_eq (tgt := 78) hx hb dX5_best_47 (by decide) (fun c8 => ?_) (fun c8 => ?_)
          · replace hp := hp.1 c8
            replace he := he.trans (if_pos c8)
            refine lv_iload_n hx hb dX5_best_78 rfl (lv_at hl 0 rfl) ?_
            refine lv_iconst (v := 1) hx hb dX5_best_79 (by decide) ?_
            refine lv_isub hx hb dX5_best_80 ?_
            refine lv_iload_n hx hb dX5_best_81 rfl (lv_at hl 2 rfl) ?_
            refine lv_iand hx hb dX5_best_82 ?_
            refine lv_istore_n (lv' := [(3, .int ((v41_3 - 1) &&& r1_v4_1)), (2, .int v41_2), (1, .int r1_v4_1), (0, .ref m0)]) hx hb dX5_best_83 rfl hl (by decide) rfl (fun ls hl => ?_)
            refine lv_goto (tgt := 41) hx hb dX5_best_84 (by decide) ?_
            exact ih _ _ hp he _ _ hP hD hS _ (lv_sub hl [0, 1, 2, 3] rfl)
          · replace hp := hp.2 c8
            replace he := he.trans (if_neg c8)
            refine lv_aload_n hx hb dX5_best_50 rfl (lv_at hl 3 rfl) ?_
            refine lv_iload_n hx hb dX5_best_51 rfl (lv_at hl 0 rfl) ?_
            refine lv_iload_n hx hb dX5_best_52 rfl (lv_at hl 1 rfl) ?_
            have hq9 := hp.1
            replace hp := hp.2
            refine k_calli (S := Unit) (wc := (W_X5 cI m0 m1 m2 m3 m4 m5 m6 m7 m8 m9 m10 m11 mr mc me mw mh mn mu ms mt md mz mi mk mo mj ml)) (wr := ([] : va_W)) (w1 := fun u => (W_X5 cI m0 m1 m2 m3 m4 m5 m6 m7 m8 m9 m10 m11 mr mc me mw mh mn mu ms mt md mz mi mk mo mj ml)) (fun u => (W_X5 cI m0 m1 m2 m3 m4 m5 m6 m7 m8 m9 m10 m11 mr mc me mw mh mn mu ms mt md mz mi mk mo mj ml)) hP hK hD hN hS hA [0, 1, 2, 3, 4, 5, 6, 7, 8, 9, 10, 11] [] rfl rfl (by decide) (by decide) (by decide) [0, 1, 2, 3, 4, 5, 6, 7, 8, 9, 10, 11] (by decide) (fun _ => rfl) (fun hg => va_runV (As := [.int v41_3, .int v41_2]) (rest := []) ⟨hx, hb, hml, hown, hts⟩ (c_X5_isBetter l D cI m0 m1 m2 m3 m4 m5 m6 m7 m8 m9 m10 m11 mr mc me mw mh mn mu ms mt md mz mi mk mo mj ml _ v41_3 v41_2 hq9) (cwV 2 hts gX5_best_X5_isBetter rfl rfl rfl (by decide +kernel) ⟨Nat.le_of_ble_eq_true rfl, Nat.le_of_ble_eq_true rfl⟩) ⟨PW.blind, va_recv hK hP (ci := 5) (q0 := 0) rfl rfl, fun U hU hW => ⟨rfl, hg U hU hW⟩⟩ rfl rfl hl.1 rfl (lv_room (Nat.le_of_ble_eq_true rfl)) dX5_best_53 ⟨Nat.le_of_ble_eq_true rfl, Nat.le_of_ble_eq_true rfl⟩) (fun r9 u H locs hw hP hD hS => ?_)
            obtain ⟨hw, hb9⟩ := hw
            subst hw
            refine lv_if_eq (tgt := 78) hx hb dX5_best_56 (by decide) (fun c10 => ?_) (fun c10 => ?_)
            · replace hp := hp.1 c10
              replace he := he.trans (if_pos c10)
              refine lv_iload_n hx hb dX5_best_78 rfl (lv_at hl 0 rfl) ?_
              refine lv_iconst (v := 1) hx hb dX5_best_79 (by decide) ?_
              refine lv_isub hx hb dX5_best_80 ?_
              refine lv_iload_n hx hb dX5_best_81 rfl (lv_at hl 2 rfl) ?_
              refine lv_iand hx hb dX5_best_82 ?_
              refine lv_istore_n (lv' := [(3, .int ((v41_3 - 1) &&& r1_v4_1)), (2, .int v41_2), (1, .int r1_v4_1), (0, .ref m0)]) hx hb dX5_best_83 rfl hl (by decide) rfl (fun ls hl => ?_)
              refine lv_goto (tgt := 41) hx hb dX5_best_84 (by decide) ?_
              exact ih _ _ hp he _ _ hP hD hS _ (lv_sub hl [0, 1, 2, 3] rfl)
            · replace hp := hp.2 c10
              replace he := he.trans (if_neg c10)
              refine lv_aload_n hx hb dX5_best_59 rfl (lv_at hl 3 rfl) ?_
              refine lv_iload_n hx hb dX5_best_60 rfl (lv_at hl 0 rfl) ?_
              have hq11 := hp.1
              replace hp := hp.2
              refine k_calli (S := Unit) (wc := (W_X5 cI m0 m1 m2 m3 m4 m5 m6 m7 m8 m9 m10 m11 mr mc me mw mh mn mu ms mt md mz mi mk mo mj ml)) (wr := ([] : va_W)) (w1 := fun u => (W_X5 cI m0 m1 m2 m3 m4 m5 m6 m7 m8 m9 m10 m11 mr mc me mw mh mn mu ms mt md mz mi mk mo mj ml)) (fun u => (W_X5 cI m0 m1 m2 m3 m4 m5 m6 m7 m8 m9 m10 m11 mr mc me mw mh mn mu ms mt md mz mi mk mo mj ml)) hP hK hD hN hS hA [0, 1, 2, 3, 4, 5, 6, 7, 8, 9, 10, 11] [] rfl rfl (by decide) (by decide) (by decide) [0, 1, 2, 3, 4, 5, 6, 7, 8, 9, 10, 11] (by decide) (fun _ => rfl) (fun hg => va_runV (As := [.int v41_3]) (rest := []) ⟨hx, hb, hml, hown, hts⟩ (c_X5_explained l D cI m0 m1 m2 m3 m4 m5 m6 m7 m8 m9 m10 m11 mr mc me mw mh mn mu ms mt md mz mi mk mo mj ml _ v41_3 hq11) (cwV 1 hts gX5_best_X5_explained rfl rfl rfl (by decide +kernel) ⟨Nat.le_of_ble_eq_true rfl, Nat.le_of_ble_eq_true rfl⟩) ⟨PW.blind, va_recv hK hP (ci := 5) (q0 := 0) rfl rfl, fun U hU hW => ⟨rfl, hg U hU hW⟩⟩ rfl rfl hl.1 rfl (lv_room (Nat.le_of_ble_eq_true rfl)) dX5_best_61 ⟨Nat.le_of_ble_eq_true rfl, Nat.le_of_ble_eq_true rfl⟩) (fun r11 u H locs hw hP hD hS => ?_)
              subst hw
              refine lv_aload_n hx hb dX5_best_64 rfl (lv_at hl 3 rfl) ?_
              refine va_get (D := D) (ci := 5) (v := .int mr) (C := RX5) (T := TX5) (N := 16) hx hb hts (by decide +kernel) hown hK hP 0 rfl rfl 2 (by decide) (hts (.fieldLink RX5 68 "AlarmgroveModel" "raised" "I") (by decide +kernel)) (fun _ h9 => h9) rfl dX5_best_65 ?_
              refine lv_iand hx hb dX5_best_68 ?_
              refine lv_aload_n hx hb dX5_best_69 rfl (lv_at hl 3 rfl) ?_
              refine va_get (D := D) (ci := 5) (v := .int mr) (C := RX5) (T := TX5) (N := 16) hx hb hts (by decide +kernel) hown hK hP 0 rfl rfl 2 (by decide) (hts (.fieldLink RX5 68 "AlarmgroveModel" "raised" "I") (by decide +kernel)) (fun _ h9 => h9) rfl dX5_best_70 ?_
              refine lv_icmp_ne (tgt := 78) hx hb dX5_best_73 (by decide) (fun c12 => ?_) (fun c12 => ?_)
              · replace hp := hp.2 c12
                replace he := he.trans (if_neg c12)
                refine lv_iload_n hx hb dX5_best_78 rfl (lv_at hl 0 rfl) ?_
                refine lv_iconst (v := 1) hx hb dX5_best_79 (by decide) ?_
                refine lv_isub hx hb dX5_best_80 ?_
                refine lv_iload_n hx hb dX5_best_81 rfl (lv_at hl 2 rfl) ?_
                refine lv_iand hx hb dX5_best_82 ?_
                refine lv_istore_n (lv' := [(3, .int ((v41_3 - 1) &&& r1_v4_1)), (2, .int v41_2), (1, .int r1_v4_1), (0, .ref m0)]) hx hb dX5_best_83 rfl hl (by decide) rfl (fun ls hl => ?_)
                refine lv_goto (tgt := 41) hx hb dX5_best_84 (by decide) ?_
                exact ih _ _ hp he _ _ hP hD hS _ (lv_sub hl [0, 1, 2, 3] rfl)
              · replace hp := hp.1 c12
                replace he := he.trans (if_pos c12)
                refine lv_iload_n hx hb dX5_best_76 rfl (lv_at hl 0 rfl) ?_
                refine lv_istore_n (lv' := [(2, .int v41_3), (3, .int v41_3), (1, .int r1_v4_1), (0, .ref m0)]) hx hb dX5_best_77 rfl hl (by decide) rfl (fun ls hl => ?_)
                refine lv_iload_n hx hb dX5_best_78 rfl (lv_at hl 1 rfl) ?_
                refine lv_iconst (v := 1) hx hb dX5_best_79 (by decide) ?_
                refine lv_isub hx hb dX5_best_80 ?_
                refine lv_iload_n hx hb dX5_best_81 rfl (lv_at hl 2 rfl) ?_
                refine lv_iand hx hb dX5_best_82 ?_
                refine lv_istore_n (lv' := [(3, .int ((v41_3 - 1) &&& r1_v4_1)), (2, .int v41_3), (1, .int r1_v4_1), (0, .ref m0)]) hx hb dX5_best_83 rfl hl (by decide) rfl (fun ls hl => ?_)
                refine lv_goto (tgt := 41) hx hb dX5_best_84 (by decide) ?_
                exact ih _ _ hp he _ _ hP hD hS _ (lv_sub hl [0, 1, 2, 3] rfl)
    exact loop6 16385 mr r1_v4_1 hpL6 hL6 _ _ hP hD hS _ (lv_sub hl [0, 1, 2, 3] rfl)
  have loop1 : ∀ (n : Nat) (v4_1 : Int32) (v4_2 : Int32), p_X5_best_L4 mr mn n v4_1 v4_2 → (r1_v4_1, r1_v4_2) = f_X5_best_L4 mr mn n v4_1 v4_2 → ∀ (H : Heap) (locs : List Loc), va_P D vwCl (W_X5 cI m0 m1 m2 m3 m4 m5 m6 m7 m8 m9 m10 m11 mr mc me mw mh mn mu ms mt md mz mi mk mo mj ml) H → va_D A (W_X5 cI m0 m1 m2 m3 m4 m5 m6 m7 m8 m9 m10 m11 mr mc me mw mh mn mu ms mt md mz mi mk mo mj ml) → va_S A s.heap H locs → ∀ ls : Array Slot, lv_has ls 4 [(2, .int v4_2), (1, .int v4_1), (0, .ref m0)] → W p l e (headSpec wsX5_best rm_X5_best).room s m ([.ref m0] : List Value).toArray below meth c H locs 0 0 (MQ below (Q_X5_best D cI m0 m1 m2 m3 m4 m5 m6 m7 m8 m9 m10 m11 mr mc me mw mh mn mu ms mt md mz mi mk mo mj ml A) ([.ref m0] : List Value).toArray s 0 0 A) (F0 m 4 ls []) := by
    intro n
    induction n with
    | zero => exact fun _ _ hp => hp.elim
    | succ n ih =>
      intro v4_1 v4_2 hp he H locs hP hD hS ls hl
      replace hp := Eq.mp (p_X5_best_L4.eq_2 ..) hp
      replace he := he.trans (f_X5_best_L4.eq_2 ..)
      refine lv_iload_n hx hb dX5_best_4 rfl (lv_at hl 0 rfl) ?_
      refine lv_bipush (v := 14) hx hb dX5_best_5 (by decide) ?_
      refine lv_icmp_ge (tgt := 34) hx hb dX5_best_7 (by decide) (fun c2 => ?_) (fun c2 => ?_)
      · replace hp := hp.1 c2
        replace he := he.trans (if_pos c2)
        exact kont1 _ _ he _ _ hP hD hS _ (lv_sub hl [1, 2] rfl)
      · replace hp := hp.2 c2
        replace he := he.trans (if_neg c2)
        refine lv_iload_n hx hb dX5_best_10 rfl (lv_at hl 1 rfl) ?_
        refine lv_aload_n hx hb dX5_best_11 rfl (lv_at hl 2 rfl) ?_
        refine lv_iload_n hx hb dX5_best_12 rfl (lv_at hl 0 rfl) ?_
        have hq3 := hp.1
        replace hp := hp.2
        refine k_calli (S := Unit) (wc := (W_X5 cI m0 m1 m2 m3 m4 m5 m6 m7 m8 m9 m10 m11 mr mc me mw mh mn mu ms mt md mz mi mk mo mj ml)) (wr := ([] : va_W)) (w1 := fun u => (W_X5 cI m0 m1 m2 m3 m4 m5 m6 m7 m8 m9 m10 m11 mr mc me mw mh mn mu ms mt md mz mi mk mo mj ml)) (fun u => (W_X5 cI m0 m1 m2 m3 m4 m5 m6 m7 m8 m9 m10 m11 mr mc me mw mh mn mu ms mt md mz mi mk mo mj ml)) hP hK hD hN hS hA [0, 1, 2, 3, 4, 5, 6, 7, 8, 9, 10, 11] [] rfl rfl (by decide) (by decide) (by decide) [0, 1, 2, 3, 4, 5, 6, 7, 8, 9, 10, 11] (by decide) (fun _ => rfl) (fun hg => va_runV (As := [.int v4_2]) (rest := [.int v4_1]) ⟨hx, hb, hml, hown, hts⟩ (c_X5_plausible l D cI m0 m1 m2 m3 m4 m5 m6 m7 m8 m9 m10 m11 mr mc me mw mh mn mu ms mt md mz mi mk mo mj ml _ v4_2 hq3) (cwV 1 hts gX5_best_X5_plausible rfl rfl rfl (by decide +kernel) ⟨Nat.le_of_ble_eq_true rfl, Nat.le_of_ble_eq_true rfl⟩) ⟨PW.blind, va_recv hK hP (ci := 5) (q0 := 0) rfl rfl, fun U hU hW => ⟨rfl, hg U hU hW⟩⟩ rfl rfl hl.1 rfl (lv_room (Nat.le_of_ble_eq_true rfl)) dX5_best_13 ⟨Nat.le_of_ble_eq_true rfl, Nat.le_of_ble_eq_true rfl⟩) (fun r3 u H locs hw hP hD hS => ?_)
        obtain ⟨hw, hb3⟩ := hw
        subst hw
        obtain ⟨j4, hJ4⟩ : ∃ z : Int32, z = (if (f_X5_plausible mr mn v4_2) = 0 then (0 : Int32) else (1 <<< (v4_2 &&& 31))) := ⟨_, rfl⟩
        rw [← hJ4] at he
        try dsimp only at he
        have hpJ4 := hp.1
        replace hp := hp.2 _  hJ4.symm
        have kont4 : ∀ (H : Heap) (locs : List Loc), va_P D vwCl (W_X5 cI m0 m1 m2 m3 m4 m5 m6 m7 m8 m9 m10 m11 mr mc me mw mh mn mu ms mt md mz mi mk mo mj ml) H → va_D A (W_X5 cI m0 m1 m2 m3 m4 m5 m6 m7 m8 m9 m10 m11 mr mc me mw mh mn mu ms mt md mz mi mk mo mj ml) → va_S A s.heap H locs → ∀ ls : Array Slot, lv_has ls 4 [(2, .int v4_2), (0, .ref m0)] → W p l e (headSpec wsX5_best rm_X5_best).room s m ([.ref m0] : List Value).toArray below meth c H locs 0 0 (MQ below (Q_X5_best D cI m0 m1 m2 m3 m4 m5 m6 m7 m8 m9 m10 m11 mr mc me mw mh mn mu ms mt md mz mi mk mo mj ml A) ([.ref m0] : List Value).toArray s 0 0 A) (F0 m 26 ls [.int j4, .int v4_1]) := by
          intro H locs hP hD hS ls hl
          refine lv_ior hx hb dX5_best_26 ?_
          refine lv_istore_n (lv' := [(1, .int (v4_1 ||| j4)), (2, .int v4_2), (0, .ref m0)]) hx hb dX5_best_27 rfl hl (by decide) rfl (fun ls hl => ?_)
          refine lv_iinc (v := (v4_2 + 1)) (lv' := [(2, .int (v4_2 + 1)), (1, .int (v4_1 ||| j4)), (0, .ref m0)]) hx hb dX5_best_28 hl (k := 1) rfl rfl (by decide) rfl (fun ls hl => ?_)
          refine lv_goto (tgt := 4) hx hb dX5_best_31 (by decide) ?_
          exact ih _ _ hp he _ _ hP hD hS _ (lv_sub hl [0, 1, 2] rfl)
        replace he := hJ4
        replace hp := hpJ4
        refine lv_if_eq (tgt := 25) hx hb dX5_best_16 (by decide) (fun c5 => ?_) (fun c5 => ?_)
        · replace hp := hp.1 c5
          replace he := he.trans (if_pos c5)
          refine lv_iconst (v := 0) hx hb dX5_best_25 (by decide) ?_
          subst he
          exact kont4 _ _ hP hD hS _ (lv_sub hl [0, 2] rfl)
        · replace hp := hp.2 c5
          replace he := he.trans (if_neg c5)
          refine lv_iconst (v := 1) hx hb dX5_best_19 (by decide) ?_
          refine lv_iload_n hx hb dX5_best_20 rfl (lv_at hl 0 rfl) ?_
          refine lv_ishl hx hb dX5_best_21 ?_
          refine lv_goto (tgt := 26) hx hb dX5_best_22 (by decide) ?_
          subst he
          exact kont4 _ _ hP hD hS _ (lv_sub hl [0, 2] rfl)
  exact loop1 15 (0 : Int32) (0 : Int32) hpL1 hL1 _ _ hP hD hS _ (lv_sub hl [0, 1, 2] rfl)
abbrev rm_X5_causes : Room := { frames := 3, cells := 0, slots := 0, locals := 69 }
abbrev Q_X5_causes (D : va_G) (cI : ClassId) (m0 m1 m2 m3 m4 m5 m6 m7 m8 m9 m10 m11 : Nat) (mr : Int32) (mc : Int32) (me : Int32) (mw : Int32) (mh : Int32) (mn : AA) (mu : AA) (ms : AA) (mt : AA) (md : AA) (mz : AA) (mi : AA) (mk : AA) (mo : AA) (mj : AA) (ml : AA) (A : Nat → Prop) : Array Value → State → Outcome → State → Prop := va_Qi (S := Int32) (fun r u => f_X5_causes mr mn mu = (r, u)) (fun u t => QW D [(cI, .int)] A (W_X5 cI m0 m1 m2 m3 m4 m5 m6 m7 m8 m9 m10 m11 mr mc me mw u mn mu ms mt md mz mi mk mo mj ml) t) A
set_option maxHeartbeats 4000000 in
set_option maxRecDepth 100000 in
theorem c_X5_causes (l : Launch)  (D : va_G) (cI : ClassId) (m0 m1 m2 m3 m4 m5 m6 m7 m8 m9 m10 m11 : Nat) (mr : Int32) (mc : Int32) (me : Int32) (mw : Int32) (mh : Int32) (mn : AA) (mu : AA) (ms : AA) (mt : AA) (md : AA) (mz : AA) (mi : AA) (mk : AA) (mo : AA) (mj : AA) (ml : AA) (sz : Nat) (hp : p_X5_causes mr mn mu) : Met l yX5_causes wsX5_causes rm_X5_causes (va_Pc [.ref m0] (PW D [(cI, .int)] sz (W_X5 cI m0 m1 m2 m3 m4 m5 m6 m7 m8 m9 m10 m11 mr mc me mw mh mn mu ms mt md mz mi mk mo mj ml))) (Q_X5_causes D cI m0 m1 m2 m3 m4 m5 m6 m7 m8 m9 m10 m11 mr mc me mw mh mn mu ms mt md mz mi mk mo mj ml (va_A (W_X5 cI m0 m1 m2 m3 m4 m5 m6 m7 m8 m9 m10 m11 mr mc me mw mh mn mu ms mt md mz mi mk mo mj ml) sz)) 0 0 (va_A (W_X5 cI m0 m1 m2 m3 m4 m5 m6 m7 m8 m9 m10 m11 mr mc me mw mh mn mu ms mt md mz mi mk mo mj ml) sz) := by
  refine Met.ofW (cc := cX5_causes) (maxL := 1) (ret := (some .int)) (by decide) rfl ?_
  intro p e s m args below meth c s₁ B hml hv
  obtain ⟨rfl, hsz, hP, hK, hD0, hN⟩ := hv
  have hx := B.exec
  have hb := B.bytes
  have hr := B.returns
  have hts := atoms_spec (ws := wsX5_causes) B.pre
  have hown : s.vm.findClass RX5 = some m.cls := findClass_of_methodNamed B.named
  have hlocks := B.notSynchronized
  subst hsz
  have hD := hD0.self (sz := s.heap.size)
  generalize hAe : va_A (W_X5 cI m0 m1 m2 m3 m4 m5 m6 m7 m8 m9 m10 m11 mr mc me mw mh mn mu ms mt md mz mi mk mo mj ml) s.heap.size = A at hD ⊢
  have hA : ∀ q : Nat, s.heap.size ≤ q → A q := fun q h => by rw [← hAe]; exact Or.inr h
  have hS : va_S A s.heap s.heap [] := va_S.rf
  have hl := lv_entry ([.ref m0]) (n := 1) (Nat.le_of_ble_eq_true rfl)
  rw [lg_entry_eq]
  generalize (lg_sl ([.ref m0]) ++ List.replicate (1 - (lg_sl ([.ref m0])).length) Slot.unset).toArray = ls at hl ⊢
  have hl : lv_has ls 1 [(0, .ref m0)] := hl
  have he := f_X5_causes.eq_1 mr mn mu
  replace hp := Eq.mp (p_X5_causes.eq_1 ..) hp
  refine lv_aload_n hx hb dX5_causes_0 rfl (lv_at hl 0 rfl) ?_
  refine lv_iconst (v := 0) hx hb dX5_causes_1 (by decide) ?_
  refine va_put (D := D) (ci := 5) (v := .int 0) (ty := .int) (C := RX5) (T := TX5) (N := 16) hx hb hts (by decide +kernel) tyX5 tyX5_ok nmX5 hown hK hP hD hS 0 rfl rfl 15 (by decide) (hts (.fieldLink RX5 43 "AlarmgroveModel" "thrown" "I") (by decide +kernel)) (fun _ h9 => h9) rfl (by decide +kernel) rfl rfl (Nat.le_of_ble_eq_true rfl) dX5_causes_2 (fun H locs hP hD hS => ?_)
  have hP : va_P D vwCl (W_X5 cI m0 m1 m2 m3 m4 m5 m6 m7 m8 m9 m10 m11 mr mc me mw 0 mn mu ms mt md mz mi mk mo mj ml) H := hP
  have hD : va_D A (W_X5 cI m0 m1 m2 m3 m4 m5 m6 m7 m8 m9 m10 m11 mr mc me mw 0 mn mu ms mt md mz mi mk mo mj ml) := hD
  refine lv_aload_n hx hb dX5_causes_5 rfl (lv_at hl 0 rfl) ?_
  have hq1 := hp.1
  replace hp := hp.2
  refine k_calli (S := Unit) (wc := (W_X5 cI m0 m1 m2 m3 m4 m5 m6 m7 m8 m9 m10 m11 mr mc me mw 0 mn mu ms mt md mz mi mk mo mj ml)) (wr := ([] : va_W)) (w1 := fun u => (W_X5 cI m0 m1 m2 m3 m4 m5 m6 m7 m8 m9 m10 m11 mr mc me mw 0 mn mu ms mt md mz mi mk mo mj ml)) (fun u => (W_X5 cI m0 m1 m2 m3 m4 m5 m6 m7 m8 m9 m10 m11 mr mc me mw 0 mn mu ms mt md mz mi mk mo mj ml)) hP hK hD hN hS hA [0, 1, 2, 3, 4, 5, 6, 7, 8, 9, 10, 11] [] rfl rfl (by decide) (by decide) (by decide) [0, 1, 2, 3, 4, 5, 6, 7, 8, 9, 10, 11] (by decide) (fun _ => rfl) (fun hg => va_runV (As := []) (rest := []) ⟨hx, hb, hml, hown, hts⟩ (c_X5_best l D cI m0 m1 m2 m3 m4 m5 m6 m7 m8 m9 m10 m11 mr mc me mw (0 : Int32) mn mu ms mt md mz mi mk mo mj ml _ hq1) (cwV 0 hts gX5_causes_X5_best rfl rfl rfl (by decide +kernel) ⟨Nat.le_of_ble_eq_true rfl, Nat.le_of_ble_eq_true rfl⟩) ⟨PW.blind, va_recv hK hP (ci := 5) (q0 := 0) rfl rfl, fun U hU hW => ⟨rfl, hg U hU hW⟩⟩ rfl rfl hl.1 rfl (lv_room (Nat.le_of_ble_eq_true rfl)) dX5_causes_6 ⟨Nat.le_of_ble_eq_true rfl, Nat.le_of_ble_eq_true rfl⟩) (fun r1 u H locs hw hP hD hS => ?_)
  subst hw
  have hq2 := hp.1
  replace hp := hp.2
  refine k_calli (S := Unit) (wc := ([] : va_W)) (wr := (W_X5 cI m0 m1 m2 m3 m4 m5 m6 m7 m8 m9 m10 m11 mr mc me mw 0 mn mu ms mt md mz mi mk mo mj ml)) (w1 := fun u => ([] : va_W)) (fun u => (W_X5 cI m0 m1 m2 m3 m4 m5 m6 m7 m8 m9 m10 m11 mr mc me mw 0 mn mu ms mt md mz mi mk mo mj ml)) hP hK hD hN hS hA [] [0, 1, 2, 3, 4, 5, 6, 7, 8, 9, 10, 11] rfl rfl (by decide) (by decide) (by decide) [0, 1, 2, 3, 4, 5, 6, 7, 8, 9, 10, 11] (by decide) (fun _ => rfl) (fun hg => va_runS (As := [.int (f_X5_best mr mn mu)]) (rest := []) ⟨hx, hb, hml, hown, hts⟩ (c_X5_count l D cI _ (f_X5_best mr mn mu) hq2) (va_cwS 1 hts gX5_causes_X5_count rfl rfl rfl (by decide +kernel) ⟨Nat.le_of_ble_eq_true rfl, Nat.le_of_ble_eq_true rfl⟩) ⟨PW.blind, fun U hU hW => ⟨rfl, hg U hU hW⟩⟩ rfl rfl hl.1 rfl (lv_room (Nat.le_of_ble_eq_true rfl)) dX5_causes_9 ⟨Nat.le_of_ble_eq_true rfl, Nat.le_of_ble_eq_true rfl⟩) (fun r2 u H locs hw hP hD hS => ?_)
  subst hw
  exact W.iret (v := (f_X5_count (f_X5_best mr mn mu))) hx hb hr (fun t ht hW => ⟨⟨(f_X5_count (f_X5_best mr mn mu)), 0, rfl, he, by rw [ht]; exact hP, va_K.moved hW.alike hK, hD⟩, hS.F ht⟩) hS.2.2 dX5_causes_12
abbrev rm_X5_cause : Room := { frames := 3, cells := 0, slots := 0, locals := 69 }
abbrev Q_X5_cause (D : va_G) (cI : ClassId) (m0 m1 m2 m3 m4 m5 m6 m7 m8 m9 m10 m11 : Nat) (mr : Int32) (mc : Int32) (me : Int32) (mw : Int32) (mh : Int32) (mn : AA) (mu : AA) (ms : AA) (mt : AA) (md : AA) (mz : AA) (mi : AA) (mk : AA) (mo : AA) (mj : AA) (ml : AA) (a1 : Int32) (A : Nat → Prop) : Array Value → State → Outcome → State → Prop := va_Qi (S := Int32) (fun r u => f_X5_cause mr mn mu a1 = (r, u)) (fun u t => QW D [(cI, .int)] A (W_X5 cI m0 m1 m2 m3 m4 m5 m6 m7 m8 m9 m10 m11 mr mc me mw u mn mu ms mt md mz mi mk mo mj ml) t) A
set_option maxHeartbeats 4000000 in
set_option maxRecDepth 100000 in
theorem c_X5_cause (l : Launch)  (D : va_G) (cI : ClassId) (m0 m1 m2 m3 m4 m5 m6 m7 m8 m9 m10 m11 : Nat) (mr : Int32) (mc : Int32) (me : Int32) (mw : Int32) (mh : Int32) (mn : AA) (mu : AA) (ms : AA) (mt : AA) (md : AA) (mz : AA) (mi : AA) (mk : AA) (mo : AA) (mj : AA) (ml : AA) (sz : Nat) (a1 : Int32) (hp : p_X5_cause mr mn mu a1) : Met l yX5_cause wsX5_cause rm_X5_cause (va_Pc [.ref m0, .int a1] (PW D [(cI, .int)] sz (W_X5 cI m0 m1 m2 m3 m4 m5 m6 m7 m8 m9 m10 m11 mr mc me mw mh mn mu ms mt md mz mi mk mo mj ml))) (Q_X5_cause D cI m0 m1 m2 m3 m4 m5 m6 m7 m8 m9 m10 m11 mr mc me mw mh mn mu ms mt md mz mi mk mo mj ml a1 (va_A (W_X5 cI m0 m1 m2 m3 m4 m5 m6 m7 m8 m9 m10 m11 mr mc me mw mh mn mu ms mt md mz mi mk mo mj ml) sz)) 0 0 (va_A (W_X5 cI m0 m1 m2 m3 m4 m5 m6 m7 m8 m9 m10 m11 mr mc me mw mh mn mu ms mt md mz mi mk mo mj ml) sz) := by
  refine Met.ofW (cc := cX5_cause) (maxL := 3) (ret := (some .int)) (by decide) rfl ?_
  intro p e s m args below meth c s₁ B hml hv
  obtain ⟨rfl, hsz, hP, hK, hD0, hN⟩ := hv
  have hx := B.exec
  have hb := B.bytes
  have hr := B.returns
  have hts := atoms_spec (ws := wsX5_cause) B.pre
  have hown : s.vm.findClass RX5 = some m.cls := findClass_of_methodNamed B.named
  have hlocks := B.notSynchronized
  subst hsz
  have hD := hD0.self (sz := s.heap.size)
  generalize hAe : va_A (W_X5 cI m0 m1 m2 m3 m4 m5 m6 m7 m8 m9 m10 m11 mr mc me mw mh mn mu ms mt md mz mi mk mo mj ml) s.heap.size = A at hD ⊢
  have hA : ∀ q : Nat, s.heap.size ≤ q → A q := fun q h => by rw [← hAe]; exact Or.inr h
  have hS : va_S A s.heap s.heap [] := va_S.rf
  have hl := lv_entry ([.ref m0, .int a1]) (n := 3) (Nat.le_of_ble_eq_true rfl)
  rw [lg_entry_eq]
  generalize (lg_sl ([.ref m0, .int a1]) ++ List.replicate (3 - (lg_sl ([.ref m0, .int a1])).length) Slot.unset).toArray = ls at hl ⊢
  have hl : lv_has ls 3 [(0, .ref m0), (1, .int a1)] := hl
  have he := f_X5_cause.eq_1 mr mn mu a1
  replace hp := Eq.mp (p_X5_cause.eq_1 ..) hp
  refine lv_aload_n hx hb dX5_cause_0 rfl (lv_at hl 0 rfl) ?_
  have hq1 := hp.1
  replace hp := hp.2
  refine k_calli (S := Unit) (wc := (W_X5 cI m0 m1 m2 m3 m4 m5 m6 m7 m8 m9 m10 m11 mr mc me mw mh mn mu ms mt md mz mi mk mo mj ml)) (wr := ([] : va_W)) (w1 := fun u => (W_X5 cI m0 m1 m2 m3 m4 m5 m6 m7 m8 m9 m10 m11 mr mc me mw mh mn mu ms mt md mz mi mk mo mj ml)) (fun u => (W_X5 cI m0 m1 m2 m3 m4 m5 m6 m7 m8 m9 m10 m11 mr mc me mw mh mn mu ms mt md mz mi mk mo mj ml)) hP hK hD hN hS hA [0, 1, 2, 3, 4, 5, 6, 7, 8, 9, 10, 11] [] rfl rfl (by decide) (by decide) (by decide) [0, 1, 2, 3, 4, 5, 6, 7, 8, 9, 10, 11] (by decide) (fun _ => rfl) (fun hg => va_runV (As := []) (rest := []) ⟨hx, hb, hml, hown, hts⟩ (c_X5_best l D cI m0 m1 m2 m3 m4 m5 m6 m7 m8 m9 m10 m11 mr mc me mw mh mn mu ms mt md mz mi mk mo mj ml _ hq1) (cwV 0 hts gX5_cause_X5_best rfl rfl rfl (by decide +kernel) ⟨Nat.le_of_ble_eq_true rfl, Nat.le_of_ble_eq_true rfl⟩) ⟨PW.blind, va_recv hK hP (ci := 5) (q0 := 0) rfl rfl, fun U hU hW => ⟨rfl, hg U hU hW⟩⟩ rfl rfl hl.1 rfl (lv_room (Nat.le_of_ble_eq_true rfl)) dX5_cause_1 ⟨Nat.le_of_ble_eq_true rfl, Nat.le_of_ble_eq_true rfl⟩) (fun r1 u H locs hw hP hD hS => ?_)
  subst hw
  refine lv_istore_n (lv' := [(2, .int (f_X5_best mr mn mu)), (0, .ref m0), (1, .int a1)]) hx hb dX5_cause_4 rfl hl (by decide) rfl (fun ls hl => ?_)
  refine lv_aload_n hx hb dX5_cause_5 rfl (lv_at hl 1 rfl) ?_
  refine lv_iload_n hx hb dX5_cause_6 rfl (lv_at hl 2 rfl) ?_
  obtain ⟨j2, hJ2⟩ : ∃ z : Int32, z = (if a1 < 0 then (0 : Int32) else (if (f_X5_count (f_X5_best mr mn mu)) ≤ a1 then (0 : Int32) else (1 : Int32))) := ⟨_, rfl⟩
  rw [← hJ2] at he
  try dsimp only at he
  have hpJ2 := hp.1
  replace hp := hp.2 _  hJ2.symm
  have kont2 : (j2 = 0 ∨ j2 = 1) → ∀ (H : Heap) (locs : List Loc), va_P D vwCl (W_X5 cI m0 m1 m2 m3 m4 m5 m6 m7 m8 m9 m10 m11 mr mc me mw mh mn mu ms mt md mz mi mk mo mj ml) H → va_D A (W_X5 cI m0 m1 m2 m3 m4 m5 m6 m7 m8 m9 m10 m11 mr mc me mw mh mn mu ms mt md mz mi mk mo mj ml) → va_S A s.heap H locs → ∀ ls : Array Slot, lv_has ls 3 [(2, .int (f_X5_best mr mn mu)), (1, .int a1)] → W p l e (headSpec wsX5_cause rm_X5_cause).room s m ([.ref m0, .int a1] : List Value).toArray below meth c H locs 0 0 (MQ below (Q_X5_cause D cI m0 m1 m2 m3 m4 m5 m6 m7 m8 m9 m10 m11 mr mc me mw mh mn mu ms mt md mz mi mk mo mj ml a1 A) ([.ref m0, .int a1] : List Value).toArray s 0 0 A) (F0 m 23 ls [.int j2, .ref m0]) := by
    intro hb2 H locs hP hD hS ls hl
    refine lv_iconst (v := 1) hx hb dX5_cause_23 (by decide) ?_
    refine k_calli (S := Int32) (wc := (W_X5 cI m0 m1 m2 m3 m4 m5 m6 m7 m8 m9 m10 m11 mr mc me mw mh mn mu ms mt md mz mi mk mo mj ml)) (wr := ([] : va_W)) (w1 := fun u => (W_X5 cI m0 m1 m2 m3 m4 m5 m6 m7 m8 m9 m10 m11 mr mc me mw u mn mu ms mt md mz mi mk mo mj ml)) (fun u => (W_X5 cI m0 m1 m2 m3 m4 m5 m6 m7 m8 m9 m10 m11 mr mc me mw u mn mu ms mt md mz mi mk mo mj ml)) hP hK hD hN hS hA [0, 1, 2, 3, 4, 5, 6, 7, 8, 9, 10, 11] [] rfl rfl (by decide) (by decide) (by decide) [0, 1, 2, 3, 4, 5, 6, 7, 8, 9, 10, 11] (by decide) (fun _ => rfl) (fun hg => va_runV (As := [.int j2, .int 1]) (rest := []) ⟨hx, hb, hml, hown, hts⟩ (c_X5_goes l D cI m0 m1 m2 m3 m4 m5 m6 m7 m8 m9 m10 m11 mr mc me mw mh mn mu ms mt md mz mi mk mo mj ml _ j2 1) (cwV 2 hts gX5_cause_X5_goes rfl rfl rfl (by decide +kernel) ⟨Nat.le_of_ble_eq_true rfl, Nat.le_of_ble_eq_true rfl⟩) ⟨PW.blind, va_recv hK hP (ci := 5) (q0 := 0) rfl rfl, fun U hU hW => ⟨rfl, hg U hU hW⟩⟩ rfl rfl hl.1 rfl (lv_room (Nat.le_of_ble_eq_true rfl)) dX5_cause_24 ⟨Nat.le_of_ble_eq_true rfl, Nat.le_of_ble_eq_true rfl⟩) (fun r6 u H locs hw hP hD hS => ?_)
    obtain ⟨u6_0, rfl⟩ : ∃ z, z = u := ⟨_, rfl⟩
    obtain ⟨hw, hb6⟩ := hw
    rw [hw] at he
    try dsimp only at he
    replace hp := hp r6 u6_0 hw
    have hP : va_P D vwCl (W_X5 cI m0 m1 m2 m3 m4 m5 m6 m7 m8 m9 m10 m11 mr mc me mw u6_0 mn mu ms mt md mz mi mk mo mj ml) H := hP
    have hD : va_D A (W_X5 cI m0 m1 m2 m3 m4 m5 m6 m7 m8 m9 m10 m11 mr mc me mw u6_0 mn mu ms mt md mz mi mk mo mj ml) := hD
    obtain ⟨j7, hJ7⟩ : ∃ z : Int32, z = (if r6 = 0 then (0 : Int32) else (f_X5_at (f_X5_best mr mn mu) a1)) := ⟨_, rfl⟩
    rw [← hJ7] at he
    try dsimp only at he
    have hpJ7 := hp.1
    replace hp := hp.2 _  hJ7.symm
    have kont7 : ∀ (H : Heap) (locs : List Loc), va_P D vwCl (W_X5 cI m0 m1 m2 m3 m4 m5 m6 m7 m8 m9 m10 m11 mr mc me mw u6_0 mn mu ms mt md mz mi mk mo mj ml) H → va_D A (W_X5 cI m0 m1 m2 m3 m4 m5 m6 m7 m8 m9 m10 m11 mr mc me mw u6_0 mn mu ms mt md mz mi mk mo mj ml) → va_S A s.heap H locs → ∀ ls : Array Slot, lv_has ls 3 [] → W p l e (headSpec wsX5_cause rm_X5_cause).room s m ([.ref m0, .int a1] : List Value).toArray below meth c H locs 0 0 (MQ below (Q_X5_cause D cI m0 m1 m2 m3 m4 m5 m6 m7 m8 m9 m10 m11 mr mc me mw mh mn mu ms mt md mz mi mk mo mj ml a1 A) ([.ref m0, .int a1] : List Value).toArray s 0 0 A) (F0 m 39 ls [.int j7]) := by
      intro H locs hP hD hS ls hl
      exact W.iret (v := j7) hx hb hr (fun t ht hW => ⟨⟨j7, u6_0, rfl, he, by rw [ht]; exact hP, va_K.moved hW.alike hK, hD⟩, hS.F ht⟩) hS.2.2 dX5_cause_39
    replace he := hJ7
    replace hp := hpJ7
    refine lv_if_eq (tgt := 38) hx hb dX5_cause_27 (by decide) (fun c8 => ?_) (fun c8 => ?_)
    · replace hp := hp.1 c8
      replace he := he.trans (if_pos c8)
      refine lv_iconst (v := 0) hx hb dX5_cause_38 (by decide) ?_
      subst he
      exact kont7 _ _ hP hD hS _ (lv_sub hl [] rfl)
    · replace hp := hp.2 c8
      replace he := he.trans (if_neg c8)
      refine lv_iload_n hx hb dX5_cause_30 rfl (lv_at hl 0 rfl) ?_
      refine lv_iload_n hx hb dX5_cause_31 rfl (lv_at hl 1 rfl) ?_
      have hq9 := hp.1
      replace hp := hp.2
      refine k_calli (S := Unit) (wc := ([] : va_W)) (wr := (W_X5 cI m0 m1 m2 m3 m4 m5 m6 m7 m8 m9 m10 m11 mr mc me mw u6_0 mn mu ms mt md mz mi mk mo mj ml)) (w1 := fun u => ([] : va_W)) (fun u => (W_X5 cI m0 m1 m2 m3 m4 m5 m6 m7 m8 m9 m10 m11 mr mc me mw u6_0 mn mu ms mt md mz mi mk mo mj ml)) hP hK hD hN hS hA [] [0, 1, 2, 3, 4, 5, 6, 7, 8, 9, 10, 11] rfl rfl (by decide) (by decide) (by decide) [0, 1, 2, 3, 4, 5, 6, 7, 8, 9, 10, 11] (by decide) (fun _ => rfl) (fun hg => va_runS (As := [.int (f_X5_best mr mn mu), .int a1]) (rest := []) ⟨hx, hb, hml, hown, hts⟩ (c_X5_at l D cI _ (f_X5_best mr mn mu) a1 hq9) (va_cwS 2 hts gX5_cause_X5_at rfl rfl rfl (by decide +kernel) ⟨Nat.le_of_ble_eq_true rfl, Nat.le_of_ble_eq_true rfl⟩) ⟨PW.blind, fun U hU hW => ⟨rfl, hg U hU hW⟩⟩ rfl rfl hl.1 rfl (lv_room (Nat.le_of_ble_eq_true rfl)) dX5_cause_32 ⟨Nat.le_of_ble_eq_true rfl, Nat.le_of_ble_eq_true rfl⟩) (fun r9 u H locs hw hP hD hS => ?_)
      subst hw
      refine lv_goto (tgt := 39) hx hb dX5_cause_35 (by decide) ?_
      subst he
      exact kont7 _ _ hP hD hS _ (lv_sub hl [] rfl)
  replace he := hJ2
  replace hp := hpJ2
  refine lv_if_lt (tgt := 22) hx hb dX5_cause_7 (by decide) (fun c3 => ?_) (fun c3 => ?_)
  · replace hp := hp.1 c3
    replace he := he.trans (if_pos c3)
    refine lv_iconst (v := 0) hx hb dX5_cause_22 (by decide) ?_
    subst he
    exact kont2 (Or.inl rfl) _ _ hP hD hS _ (lv_sub hl [0, 2] rfl)
  · replace hp := hp.2 c3
    replace he := he.trans (if_neg c3)
    refine lv_iload_n hx hb dX5_cause_10 rfl (lv_at hl 2 rfl) ?_
    refine lv_iload_n hx hb dX5_cause_11 rfl (lv_at hl 0 rfl) ?_
    have hq4 := hp.1
    replace hp := hp.2
    refine k_calli (S := Unit) (wc := ([] : va_W)) (wr := (W_X5 cI m0 m1 m2 m3 m4 m5 m6 m7 m8 m9 m10 m11 mr mc me mw mh mn mu ms mt md mz mi mk mo mj ml)) (w1 := fun u => ([] : va_W)) (fun u => (W_X5 cI m0 m1 m2 m3 m4 m5 m6 m7 m8 m9 m10 m11 mr mc me mw mh mn mu ms mt md mz mi mk mo mj ml)) hP hK hD hN hS hA [] [0, 1, 2, 3, 4, 5, 6, 7, 8, 9, 10, 11] rfl rfl (by decide) (by decide) (by decide) [0, 1, 2, 3, 4, 5, 6, 7, 8, 9, 10, 11] (by decide) (fun _ => rfl) (fun hg => va_runS (As := [.int (f_X5_best mr mn mu)]) (rest := [.int a1, .ref m0]) ⟨hx, hb, hml, hown, hts⟩ (c_X5_count l D cI _ (f_X5_best mr mn mu) hq4) (va_cwS 1 hts gX5_cause_X5_count rfl rfl rfl (by decide +kernel) ⟨Nat.le_of_ble_eq_true rfl, Nat.le_of_ble_eq_true rfl⟩) ⟨PW.blind, fun U hU hW => ⟨rfl, hg U hU hW⟩⟩ rfl rfl hl.1 rfl (lv_room (Nat.le_of_ble_eq_true rfl)) dX5_cause_12 ⟨Nat.le_of_ble_eq_true rfl, Nat.le_of_ble_eq_true rfl⟩) (fun r4 u H locs hw hP hD hS => ?_)
    subst hw
    refine lv_icmp_ge (tgt := 22) hx hb dX5_cause_15 (by decide) (fun c5 => ?_) (fun c5 => ?_)
    · replace hp := hp.1 c5
      replace he := he.trans (if_pos c5)
      refine lv_iconst (v := 0) hx hb dX5_cause_22 (by decide) ?_
      subst he
      exact kont2 (Or.inl rfl) _ _ hP hD hS _ (lv_sub hl [0, 2] rfl)
    · replace hp := hp.2 c5
      replace he := he.trans (if_neg c5)
      refine lv_iconst (v := 1) hx hb dX5_cause_18 (by decide) ?_
      refine lv_goto (tgt := 23) hx hb dX5_cause_19 (by decide) ?_
      subst he
      exact kont2 (Or.inr rfl) _ _ hP hD hS _ (lv_sub hl [0, 2] rfl)
abbrev rm_X5_causeByTrying : Room := { frames := 4, cells := 0, slots := 0, locals := 91 }
abbrev Q_X5_causeByTrying (D : va_G) (cI : ClassId) (m0 m1 m2 m3 m4 m5 m6 m7 m8 m9 m10 m11 : Nat) (mr : Int32) (mc : Int32) (me : Int32) (mw : Int32) (mh : Int32) (mn : AA) (mu : AA) (ms : AA) (mt : AA) (md : AA) (mz : AA) (mi : AA) (mk : AA) (mo : AA) (mj : AA) (ml : AA) (a1 : Int32) (A : Nat → Prop) : Array Value → State → Outcome → State → Prop := va_Qi (S := Int32) (fun r u => f_X5_causeByTrying mr mn mu a1 = (r, u)) (fun u t => QW D [(cI, .int)] A (W_X5 cI m0 m1 m2 m3 m4 m5 m6 m7 m8 m9 m10 m11 mr mc me mw u mn mu ms mt md mz mi mk mo mj ml) t) A
set_option maxHeartbeats 4000000 in
set_option maxRecDepth 100000 in
theorem c_X5_causeByTrying (l : Launch)  (D : va_G) (cI : ClassId) (m0 m1 m2 m3 m4 m5 m6 m7 m8 m9 m10 m11 : Nat) (mr : Int32) (mc : Int32) (me : Int32) (mw : Int32) (mh : Int32) (mn : AA) (mu : AA) (ms : AA) (mt : AA) (md : AA) (mz : AA) (mi : AA) (mk : AA) (mo : AA) (mj : AA) (ml : AA) (sz : Nat) (a1 : Int32) (hp : p_X5_causeByTrying mr mn mu a1) : Met l yX5_causeByTrying wsX5_causeByTrying rm_X5_causeByTrying (va_Pc [.ref m0, .int a1] (PW D [(cI, .int)] sz (W_X5 cI m0 m1 m2 m3 m4 m5 m6 m7 m8 m9 m10 m11 mr mc me mw mh mn mu ms mt md mz mi mk mo mj ml))) (Q_X5_causeByTrying D cI m0 m1 m2 m3 m4 m5 m6 m7 m8 m9 m10 m11 mr mc me mw mh mn mu ms mt md mz mi mk mo mj ml a1 (va_A (W_X5 cI m0 m1 m2 m3 m4 m5 m6 m7 m8 m9 m10 m11 mr mc me mw mh mn mu ms mt md mz mi mk mo mj ml) sz)) 0 0 (va_A (W_X5 cI m0 m1 m2 m3 m4 m5 m6 m7 m8 m9 m10 m11 mr mc me mw mh mn mu ms mt md mz mi mk mo mj ml) sz) := by
  refine Met.ofW (cc := cX5_causeByTrying) (maxL := 2) (ret := (some .int)) (by decide) rfl ?_
  intro p e s m args below meth c s₁ B hml hv
  obtain ⟨rfl, hsz, hP, hK, hD0, hN⟩ := hv
  have hx := B.exec
  have hb := B.bytes
  have hr := B.returns
  have hts := atoms_spec (ws := wsX5_causeByTrying) B.pre
  have hown : s.vm.findClass RX5 = some m.cls := findClass_of_methodNamed B.named
  have hlocks := B.notSynchronized
  subst hsz
  have hD := hD0.self (sz := s.heap.size)
  generalize hAe : va_A (W_X5 cI m0 m1 m2 m3 m4 m5 m6 m7 m8 m9 m10 m11 mr mc me mw mh mn mu ms mt md mz mi mk mo mj ml) s.heap.size = A at hD ⊢
  have hA : ∀ q : Nat, s.heap.size ≤ q → A q := fun q h => by rw [← hAe]; exact Or.inr h
  have hS : va_S A s.heap s.heap [] := va_S.rf
  have hl := lv_entry ([.ref m0, .int a1]) (n := 2) (Nat.le_of_ble_eq_true rfl)
  rw [lg_entry_eq]
  generalize (lg_sl ([.ref m0, .int a1]) ++ List.replicate (2 - (lg_sl ([.ref m0, .int a1])).length) Slot.unset).toArray = ls at hl ⊢
  have hl : lv_has ls 2 [(0, .ref m0), (1, .int a1)] := hl
  have he := f_X5_causeByTrying.eq_1 mr mn mu a1
  replace hp := Eq.mp (p_X5_causeByTrying.eq_1 ..) hp
  refine lv_aload_n hx hb dX5_causeByTrying_0 rfl (lv_at hl 0 rfl) ?_
  refine lv_iload_n hx hb dX5_causeByTrying_1 rfl (lv_at hl 1 rfl) ?_
  have hq1 := hp.1
  replace hp := hp.2
  refine k_calli (S := Int32) (wc := (W_X5 cI m0 m1 m2 m3 m4 m5 m6 m7 m8 m9 m10 m11 mr mc me mw mh mn mu ms mt md mz mi mk mo mj ml)) (wr := ([] : va_W)) (w1 := fun u => (W_X5 cI m0 m1 m2 m3 m4 m5 m6 m7 m8 m9 m10 m11 mr mc me mw u mn mu ms mt md mz mi mk mo mj ml)) (fun u => (W_X5 cI m0 m1 m2 m3 m4 m5 m6 m7 m8 m9 m10 m11 mr mc me mw u mn mu ms mt md mz mi mk mo mj ml)) hP hK hD hN hS hA [0, 1, 2, 3, 4, 5, 6, 7, 8, 9, 10, 11] [] rfl rfl (by decide) (by decide) (by decide) [0, 1, 2, 3, 4, 5, 6, 7, 8, 9, 10, 11] (by decide) (fun _ => rfl) (fun hg => va_runV (As := [.int a1]) (rest := []) ⟨hx, hb, hml, hown, hts⟩ (c_X5_cause l D cI m0 m1 m2 m3 m4 m5 m6 m7 m8 m9 m10 m11 mr mc me mw mh mn mu ms mt md mz mi mk mo mj ml _ a1 hq1) (cwV 1 hts gX5_causeByTrying_X5_cause rfl rfl rfl (by decide +kernel) ⟨Nat.le_of_ble_eq_true rfl, Nat.le_of_ble_eq_true rfl⟩) ⟨PW.blind, va_recv hK hP (ci := 5) (q0 := 0) rfl rfl, fun U hU hW => ⟨rfl, hg U hU hW⟩⟩ rfl rfl hl.1 rfl (lv_room (Nat.le_of_ble_eq_true rfl)) dX5_causeByTrying_2 ⟨Nat.le_of_ble_eq_true rfl, Nat.le_of_ble_eq_true rfl⟩) (fun r1 u H locs hw hP hD hS => ?_)
  obtain ⟨u1_0, rfl⟩ : ∃ z, z = u := ⟨_, rfl⟩
  rw [hw] at he
  try dsimp only at he
  replace hp := hp r1 u1_0 hw
  have hP : va_P D vwCl (W_X5 cI m0 m1 m2 m3 m4 m5 m6 m7 m8 m9 m10 m11 mr mc me mw u1_0 mn mu ms mt md mz mi mk mo mj ml) H := hP
  have hD : va_D A (W_X5 cI m0 m1 m2 m3 m4 m5 m6 m7 m8 m9 m10 m11 mr mc me mw u1_0 mn mu ms mt md mz mi mk mo mj ml) := hD
  exact W.iret (v := r1) hx hb hr (fun t ht hW => ⟨⟨r1, u1_0, rfl, he, by rw [ht]; exact hP, va_K.moved hW.alike hK, hD⟩, hS.F ht⟩) hS.2.2 dX5_causeByTrying_5
abbrev rm_X5_joins : Room := { frames := 2, cells := 0, slots := 0, locals := 44 }
abbrev Q_X5_joins (D : va_G) (cI : ClassId) (m0 m1 m2 m3 m4 m5 m6 m7 m8 m9 m10 m11 : Nat) (mr : Int32) (mc : Int32) (me : Int32) (mw : Int32) (mh : Int32) (mn : AA) (mu : AA) (ms : AA) (mt : AA) (md : AA) (mz : AA) (mi : AA) (mk : AA) (mo : AA) (mj : AA) (ml : AA) (a1 : Int32) (A : Nat → Prop) : Array Value → State → Outcome → State → Prop := va_Qi (S := Unit) (fun r u => f_X5_joins mr mn mu a1 = r) (fun u t => QW D [(cI, .int)] A (W_X5 cI m0 m1 m2 m3 m4 m5 m6 m7 m8 m9 m10 m11 mr mc me mw mh mn mu ms mt md mz mi mk mo mj ml) t) A
set_option maxHeartbeats 4000000 in
set_option maxRecDepth 100000 in
theorem c_X5_joins (l : Launch)  (D : va_G) (cI : ClassId) (m0 m1 m2 m3 m4 m5 m6 m7 m8 m9 m10 m11 : Nat) (mr : Int32) (mc : Int32) (me : Int32) (mw : Int32) (mh : Int32) (mn : AA) (mu : AA) (ms : AA) (mt : AA) (md : AA) (mz : AA) (mi : AA) (mk : AA) (mo : AA) (mj : AA) (ml : AA) (sz : Nat) (a1 : Int32) (hp : p_X5_joins mr mn mu a1) : Met l yX5_joins wsX5_joins rm_X5_joins (va_Pc [.ref m0, .int a1] (PW D [(cI, .int)] sz (W_X5 cI m0 m1 m2 m3 m4 m5 m6 m7 m8 m9 m10 m11 mr mc me mw mh mn mu ms mt md mz mi mk mo mj ml))) (Q_X5_joins D cI m0 m1 m2 m3 m4 m5 m6 m7 m8 m9 m10 m11 mr mc me mw mh mn mu ms mt md mz mi mk mo mj ml a1 (va_A (W_X5 cI m0 m1 m2 m3 m4 m5 m6 m7 m8 m9 m10 m11 mr mc me mw mh mn mu ms mt md mz mi mk mo mj ml) sz)) 0 0 (va_A (W_X5 cI m0 m1 m2 m3 m4 m5 m6 m7 m8 m9 m10 m11 mr mc me mw mh mn mu ms mt md mz mi mk mo mj ml) sz) := by
  refine Met.ofW (cc := cX5_joins) (maxL := 7) (ret := (some .int)) (by decide) rfl ?_
  intro p e s m args below meth c s₁ B hml hv
  obtain ⟨rfl, hsz, hP, hK, hD0, hN⟩ := hv
  have hx := B.exec
  have hb := B.bytes
  have hr := B.returns
  have hts := atoms_spec (ws := wsX5_joins) B.pre
  have hown : s.vm.findClass RX5 = some m.cls := findClass_of_methodNamed B.named
  have hlocks := B.notSynchronized
  subst hsz
  have hD := hD0.self (sz := s.heap.size)
  generalize hAe : va_A (W_X5 cI m0 m1 m2 m3 m4 m5 m6 m7 m8 m9 m10 m11 mr mc me mw mh mn mu ms mt md mz mi mk mo mj ml) s.heap.size = A at hD ⊢
  have hA : ∀ q : Nat, s.heap.size ≤ q → A q := fun q h => by rw [← hAe]; exact Or.inr h
  have hS : va_S A s.heap s.heap [] := va_S.rf
  have hl := lv_entry ([.ref m0, .int a1]) (n := 7) (Nat.le_of_ble_eq_true rfl)
  rw [lg_entry_eq]
  generalize (lg_sl ([.ref m0, .int a1]) ++ List.replicate (7 - (lg_sl ([.ref m0, .int a1])).length) Slot.unset).toArray = ls at hl ⊢
  have hl : lv_has ls 7 [(0, .ref m0), (1, .int a1)] := hl
  have he := f_X5_joins.eq_1 mr mn mu a1
  replace hp := Eq.mp (p_X5_joins.eq_1 ..) hp
  refine lv_iconst (v := (-1)) hx hb dX5_joins_0 (by decide) ?_
  refine lv_istore_n (lv' := [(2, .int (-1)), (0, .ref m0), (1, .int a1)]) hx hb dX5_joins_1 rfl hl (by decide) rfl (fun ls hl => ?_)
  refine lv_iconst (v := 0) hx hb dX5_joins_2 (by decide) ?_
  refine lv_istore_n (lv' := [(3, .int 0), (2, .int (-1)), (0, .ref m0), (1, .int a1)]) hx hb dX5_joins_3 rfl hl (by decide) rfl (fun ls hl => ?_)
  refine lv_iconst (v := 0) hx hb dX5_joins_4 (by decide) ?_
  refine lv_istore (lv' := [(4, .int 0), (3, .int 0), (2, .int (-1)), (0, .ref m0), (1, .int a1)]) hx hb dX5_joins_5 hl (by decide) rfl (fun ls hl => ?_)
  obtain ⟨⟨r1_v7_2, r1_v7_3, r1_v7_4⟩, hL1⟩ : ∃ z, z = f_X5_joins_L7 mr mn mu a1 15 ((-1) : Int32) (0 : Int32) (0 : Int32) := ⟨_, rfl⟩
  rw [← hL1] at he
  try dsimp only at he
  have hpL1 := hp.1
  replace hp := hp.2 _ _ _ hL1.symm
  have kont1 : ∀ (x1_v7_2 : Int32) (x1_v7_3 : Int32) (x1_v7_4 : Int32), (r1_v7_2, r1_v7_3, r1_v7_4) = (x1_v7_2, x1_v7_3, x1_v7_4) → ∀ (H : Heap) (locs : List Loc), va_P D vwCl (W_X5 cI m0 m1 m2 m3 m4 m5 m6 m7 m8 m9 m10 m11 mr mc me mw mh mn mu ms mt md mz mi mk mo mj ml) H → va_D A (W_X5 cI m0 m1 m2 m3 m4 m5 m6 m7 m8 m9 m10 m11 mr mc me mw mh mn mu ms mt md mz mi mk mo mj ml) → va_S A s.heap H locs → ∀ ls : Array Slot, lv_has ls 7 [(2, .int x1_v7_2)] → W p l e (headSpec wsX5_joins rm_X5_joins).room s m ([.ref m0, .int a1] : List Value).toArray below meth c H locs 0 0 (MQ below (Q_X5_joins D cI m0 m1 m2 m3 m4 m5 m6 m7 m8 m9 m10 m11 mr mc me mw mh mn mu ms mt md mz mi mk mo mj ml a1 A) ([.ref m0, .int a1] : List Value).toArray s 0 0 A) (F0 m 117 ls []) := by
    intro x1_v7_2 x1_v7_3 x1_v7_4 hxe H locs hP hD hS ls hl
    simp only [Prod.mk.injEq] at hxe
    obtain ⟨rfl, rfl, rfl⟩ := hxe
    refine lv_iload_n hx hb dX5_joins_117 rfl (lv_at hl 0 rfl) ?_
    exact W.iret (v := r1_v7_2) hx hb hr (fun t ht hW => ⟨⟨r1_v7_2, (), rfl, he, by rw [ht]; exact hP, va_K.moved hW.alike hK, hD⟩, hS.F ht⟩) hS.2.2 dX5_joins_118
  have loop1 : ∀ (n : Nat) (v7_2 : Int32) (v7_3 : Int32) (v7_4 : Int32), p_X5_joins_L7 mr mn mu a1 n v7_2 v7_3 v7_4 → (r1_v7_2, r1_v7_3, r1_v7_4) = f_X5_joins_L7 mr mn mu a1 n v7_2 v7_3 v7_4 → ∀ (H : Heap) (locs : List Loc), va_P D vwCl (W_X5 cI m0 m1 m2 m3 m4 m5 m6 m7 m8 m9 m10 m11 mr mc me mw mh mn mu ms mt md mz mi mk mo mj ml) H → va_D A (W_X5 cI m0 m1 m2 m3 m4 m5 m6 m7 m8 m9 m10 m11 mr mc me mw mh mn mu ms mt md mz mi mk mo mj ml) → va_S A s.heap H locs → ∀ ls : Array Slot, lv_has ls 7 [(4, .int v7_4), (3, .int v7_3), (2, .int v7_2), (0, .ref m0), (1, .int a1)] → W p l e (headSpec wsX5_joins rm_X5_joins).room s m ([.ref m0, .int a1] : List Value).toArray below meth c H locs 0 0 (MQ below (Q_X5_joins D cI m0 m1 m2 m3 m4 m5 m6 m7 m8 m9 m10 m11 mr mc me mw mh mn mu ms mt md mz mi mk mo mj ml a1 A) ([.ref m0, .int a1] : List Value).toArray s 0 0 A) (F0 m 7 ls []) := by
    intro n
    induction n with
    | zero => exact fun _ _ _ hp => hp.elim
    | succ n ih =>
      intro v7_2 v7_3 v7_4 hp he H locs hP hD hS ls hl
      replace hp := Eq.mp (p_X5_joins_L7.eq_2 ..) hp
      replace he := he.trans (f_X5_joins_L7.eq_2 ..)
      refine lv_iload hx hb dX5_joins_7 (lv_at hl 0 rfl) ?_
      refine lv_bipush (v := 14) hx hb dX5_joins_9 (by decide) ?_
      refine lv_icmp_ge (tgt := 117) hx hb dX5_joins_11 (by decide) (fun c2 => ?_) (fun c2 => ?_)
      · replace hp := hp.1 c2
        replace he := he.trans (if_pos c2)
        exact kont1 _ _ _ he _ _ hP hD hS _ (lv_sub hl [2] rfl)
      · replace hp := hp.2 c2
        replace he := he.trans (if_neg c2)
        refine lv_aload_n hx hb dX5_joins_14 rfl (lv_at hl 3 rfl) ?_
        refine lv_iload hx hb dX5_joins_15 (lv_at hl 0 rfl) ?_
        have hq3 := hp.1
        replace hp := hp.2
        refine k_calli (S := Unit) (wc := (W_X5 cI m0 m1 m2 m3 m4 m5 m6 m7 m8 m9 m10 m11 mr mc me mw mh mn mu ms mt md mz mi mk mo mj ml)) (wr := ([] : va_W)) (w1 := fun u => (W_X5 cI m0 m1 m2 m3 m4 m5 m6 m7 m8 m9 m10 m11 mr mc me mw mh mn mu ms mt md mz mi mk mo mj ml)) (fun u => (W_X5 cI m0 m1 m2 m3 m4 m5 m6 m7 m8 m9 m10 m11 mr mc me mw mh mn mu ms mt md mz mi mk mo mj ml)) hP hK hD hN hS hA [0, 1, 2, 3, 4, 5, 6, 7, 8, 9, 10, 11] [] rfl rfl (by decide) (by decide) (by decide) [0, 1, 2, 3, 4, 5, 6, 7, 8, 9, 10, 11] (by decide) (fun _ => rfl) (fun hg => va_runV (As := [.int v7_4]) (rest := []) ⟨hx, hb, hml, hown, hts⟩ (c_X5_plausible l D cI m0 m1 m2 m3 m4 m5 m6 m7 m8 m9 m10 m11 mr mc me mw mh mn mu ms mt md mz mi mk mo mj ml _ v7_4 hq3) (cwV 1 hts gX5_joins_X5_plausible rfl rfl rfl (by decide +kernel) ⟨Nat.le_of_ble_eq_true rfl, Nat.le_of_ble_eq_true rfl⟩) ⟨PW.blind, va_recv hK hP (ci := 5) (q0 := 0) rfl rfl, fun U hU hW => ⟨rfl, hg U hU hW⟩⟩ rfl rfl hl.1 rfl (lv_room (Nat.le_of_ble_eq_true rfl)) dX5_joins_17 ⟨Nat.le_of_ble_eq_true rfl, Nat.le_of_ble_eq_true rfl⟩) (fun r3 u H locs hw hP hD hS => ?_)
        obtain ⟨hw, hb3⟩ := hw
        subst hw
        obtain ⟨j4, hJ4⟩ : ∃ z : Int32, z = (if (f_X5_plausible mr mn v7_4) = 0 then (0 : Int32) else (f_X5_count ((f_X5_explains mu v7_4) &&& a1))) := ⟨_, rfl⟩
        rw [← hJ4] at he
        try dsimp only at he
        have hpJ4 := hp.1
        replace hp := hp.2 _  hJ4.symm
        have kont4 : ∀ (H : Heap) (locs : List Loc), va_P D vwCl (W_X5 cI m0 m1 m2 m3 m4 m5 m6 m7 m8 m9 m10 m11 mr mc me mw mh mn mu ms mt md mz mi mk mo mj ml) H → va_D A (W_X5 cI m0 m1 m2 m3 m4 m5 m6 m7 m8 m9 m10 m11 mr mc me mw mh mn mu ms mt md mz mi mk mo mj ml) → va_S A s.heap H locs → ∀ ls : Array Slot, lv_has ls 7 [(4, .int v7_4), (3, .int v7_3), (2, .int v7_2), (0, .ref m0), (1, .int a1)] → W p l e (headSpec wsX5_joins rm_X5_joins).room s m ([.ref m0, .int a1] : List Value).toArray below meth c H locs 0 0 (MQ below (Q_X5_joins D cI m0 m1 m2 m3 m4 m5 m6 m7 m8 m9 m10 m11 mr mc me mw mh mn mu ms mt md mz mi mk mo mj ml a1 A) ([.ref m0, .int a1] : List Value).toArray s 0 0 A) (F0 m 38 ls [.int j4]) := by
          intro H locs hP hD hS ls hl
          refine lv_istore (lv' := [(5, .int j4), (4, .int v7_4), (3, .int v7_3), (2, .int v7_2), (0, .ref m0), (1, .int a1)]) hx hb dX5_joins_38 hl (by decide) rfl (fun ls hl => ?_)
          refine lv_iload hx hb dX5_joins_40 (lv_at hl 0 rfl) ?_
          refine lv_iload_n hx hb dX5_joins_42 rfl (lv_at hl 2 rfl) ?_
          obtain ⟨j8, hJ8⟩ : ∃ z : Int32, z = (if v7_3 < j4 then (1 : Int32) else (if j4 = v7_3 then (if j4 ≤ 0 then (0 : Int32) else (if (f_X5_has mr v7_4) = 0 then (0 : Int32) else (if (f_X5_has mr v7_2) = 0 then (1 : Int32) else (0 : Int32)))) else (0 : Int32))) := ⟨_, rfl⟩
          rw [← hJ8] at he
          try dsimp only at he
          have hpJ8 := hp.1
          replace hp := hp.2 _  hJ8.symm
          have kont8 : (j8 = 0 ∨ j8 = 1) → ∀ (H : Heap) (locs : List Loc), va_P D vwCl (W_X5 cI m0 m1 m2 m3 m4 m5 m6 m7 m8 m9 m10 m11 mr mc me mw mh mn mu ms mt md mz mi mk mo mj ml) H → va_D A (W_X5 cI m0 m1 m2 m3 m4 m5 m6 m7 m8 m9 m10 m11 mr mc me mw mh mn mu ms mt md mz mi mk mo mj ml) → va_S A s.heap H locs → ∀ ls : Array Slot, lv_has ls 7 [(5, .int j4), (4, .int v7_4), (3, .int v7_3), (2, .int v7_2), (0, .ref m0), (1, .int a1)] → W p l e (headSpec wsX5_joins rm_X5_joins).room s m ([.ref m0, .int a1] : List Value).toArray below meth c H locs 0 0 (MQ below (Q_X5_joins D cI m0 m1 m2 m3 m4 m5 m6 m7 m8 m9 m10 m11 mr mc me mw mh mn mu ms mt md mz mi mk mo mj ml a1 A) ([.ref m0, .int a1] : List Value).toArray s 0 0 A) (F0 m 85 ls [.int j8]) := by
            intro hb8 H locs hP hD hS ls hl
            refine lv_istore (lv' := [(6, .int j8), (5, .int j4), (4, .int v7_4), (3, .int v7_3), (2, .int v7_2), (0, .ref m0), (1, .int a1)]) hx hb dX5_joins_85 hl (by decide) rfl (fun ls hl => ?_)
            refine lv_iload hx hb dX5_joins_87 (lv_at hl 0 rfl) ?_
            obtain ⟨j16, hJ16⟩ : ∃ z : Int32, z = (if j8 = 0 then v7_2 else v7_4) := ⟨_, rfl⟩
            rw [← hJ16] at he
            try dsimp only at he
            have hpJ16 := hp.1
            replace hp := hp.2 _  hJ16.symm
            have kont16 : ∀ (H : Heap) (locs : List Loc), va_P D vwCl (W_X5 cI m0 m1 m2 m3 m4 m5 m6 m7 m8 m9 m10 m11 mr mc me mw mh mn mu ms mt md mz mi mk mo mj ml) H → va_D A (W_X5 cI m0 m1 m2 m3 m4 m5 m6 m7 m8 m9 m10 m11 mr mc me mw mh mn mu ms mt md mz mi mk mo mj ml) → va_S A s.heap H locs → ∀ ls : Array Slot, lv_has ls 7 [(6, .int j8), (5, .int j4), (4, .int v7_4), (3, .int v7_3), (0, .ref m0), (1, .int a1)] → W p l e (headSpec wsX5_joins rm_X5_joins).room s m ([.ref m0, .int a1] : List Value).toArray below meth c H locs 0 0 (MQ below (Q_X5_joins D cI m0 m1 m2 m3 m4 m5 m6 m7 m8 m9 m10 m11 mr mc me mw mh mn mu ms mt md mz mi mk mo mj ml a1 A) ([.ref m0, .int a1] : List Value).toArray s 0 0 A) (F0 m 98 ls [.int j16]) := by
              intro H locs hP hD hS ls hl
              refine lv_istore_n (lv' := [(2, .int j16), (6, .int j8), (5, .int j4), (4, .int v7_4), (3, .int v7_3), (0, .ref m0), (1, .int a1)]) hx hb dX5_joins_98 rfl hl (by decide) rfl (fun ls hl => ?_)
              refine lv_iload hx hb dX5_joins_99 (lv_at hl 1 rfl) ?_
              obtain ⟨j18, hJ18⟩ : ∃ z : Int32, z = (if j8 = 0 then v7_3 else j4) := ⟨_, rfl⟩
              rw [← hJ18] at he
              try dsimp only at he
              have hpJ18 := hp.1
              replace hp := hp.2 _  hJ18.symm
              have kont18 : ∀ (H : Heap) (locs : List Loc), va_P D vwCl (W_X5 cI m0 m1 m2 m3 m4 m5 m6 m7 m8 m9 m10 m11 mr mc me mw mh mn mu ms mt md mz mi mk mo mj ml) H → va_D A (W_X5 cI m0 m1 m2 m3 m4 m5 m6 m7 m8 m9 m10 m11 mr mc me mw mh mn mu ms mt md mz mi mk mo mj ml) → va_S A s.heap H locs → ∀ ls : Array Slot, lv_has ls 7 [(2, .int j16), (4, .int v7_4), (0, .ref m0), (1, .int a1)] → W p l e (headSpec wsX5_joins rm_X5_joins).room s m ([.ref m0, .int a1] : List Value).toArray below meth c H locs 0 0 (MQ below (Q_X5_joins D cI m0 m1 m2 m3 m4 m5 m6 m7 m8 m9 m10 m11 mr mc me mw mh mn mu ms mt md mz mi mk mo mj ml a1 A) ([.ref m0, .int a1] : List Value).toArray s 0 0 A) (F0 m 110 ls [.int j18]) := by
                intro H locs hP hD hS ls hl
                refine lv_istore_n (lv' := [(3, .int j18), (2, .int j16), (4, .int v7_4), (0, .ref m0), (1, .int a1)]) hx hb dX5_joins_110 rfl hl (by decide) rfl (fun ls hl => ?_)
                refine lv_iinc (v := (v7_4 + 1)) (lv' := [(4, .int (v7_4 + 1)), (3, .int j18), (2, .int j16), (0, .ref m0), (1, .int a1)]) hx hb dX5_joins_111 hl (k := 2) rfl rfl (by decide) rfl (fun ls hl => ?_)
                refine lv_goto (tgt := 7) hx hb dX5_joins_114 (by decide) ?_
                exact ih _ _ _ hp he _ _ hP hD hS _ (lv_sub hl [0, 1, 2, 3, 4] rfl)
              replace he := hJ18
              replace hp := hpJ18
              refine lv_if_eq (tgt := 109) hx hb dX5_joins_101 (by decide) (fun c19 => ?_) (fun c19 => ?_)
              · replace hp := hp.1 c19
                replace he := he.trans (if_pos c19)
                refine lv_iload_n hx hb dX5_joins_109 rfl (lv_at hl 4 rfl) ?_
                subst he
                exact kont18 _ _ hP hD hS _ (lv_sub hl [0, 3, 5, 6] rfl)
              · replace hp := hp.2 c19
                replace he := he.trans (if_neg c19)
                refine lv_iload hx hb dX5_joins_104 (lv_at hl 2 rfl) ?_
                refine lv_goto (tgt := 110) hx hb dX5_joins_106 (by decide) ?_
                subst he
                exact kont18 _ _ hP hD hS _ (lv_sub hl [0, 3, 5, 6] rfl)
            replace he := hJ16
            replace hp := hpJ16
            refine lv_if_eq (tgt := 97) hx hb dX5_joins_89 (by decide) (fun c17 => ?_) (fun c17 => ?_)
            · replace hp := hp.1 c17
              replace he := he.trans (if_pos c17)
              refine lv_iload_n hx hb dX5_joins_97 rfl (lv_at hl 4 rfl) ?_
              subst he
              exact kont16 _ _ hP hD hS _ (lv_sub hl [0, 1, 2, 3, 5, 6] rfl)
            · replace hp := hp.2 c17
              replace he := he.trans (if_neg c17)
              refine lv_iload hx hb dX5_joins_92 (lv_at hl 2 rfl) ?_
              refine lv_goto (tgt := 98) hx hb dX5_joins_94 (by decide) ?_
              subst he
              exact kont16 _ _ hP hD hS _ (lv_sub hl [0, 1, 2, 3, 5, 6] rfl)
          replace he := hJ8
          replace hp := hpJ8
          refine lv_icmp_gt (tgt := 80) hx hb dX5_joins_43 (by decide) (fun c9 => ?_) (fun c9 => ?_)
          · replace hp := hp.1 c9
            replace he := he.trans (if_pos c9)
            refine lv_iconst (v := 1) hx hb dX5_joins_80 (by decide) ?_
            refine lv_goto (tgt := 85) hx hb dX5_joins_81 (by decide) ?_
            subst he
            exact kont8 (Or.inr rfl) _ _ hP hD hS _ (lv_sub hl [0, 1, 2, 3, 4, 5] rfl)
          · replace hp := hp.2 c9
            replace he := he.trans (if_neg c9)
            refine lv_iload hx hb dX5_joins_46 (lv_at hl 0 rfl) ?_
            refine lv_iload_n hx hb dX5_joins_48 rfl (lv_at hl 2 rfl) ?_
            refine lv_icmp_ne (tgt := 84) hx hb dX5_joins_49 (by decide) (fun c10 => ?_) (fun c10 => ?_)
            · replace hp := hp.2 c10
              replace he := he.trans (if_neg c10)
              refine lv_iconst (v := 0) hx hb dX5_joins_84 (by decide) ?_
              subst he
              exact kont8 (Or.inl rfl) _ _ hP hD hS _ (lv_sub hl [0, 1, 2, 3, 4, 5] rfl)
            · replace hp := hp.1 c10
              replace he := he.trans (if_pos c10)
              refine lv_iload hx hb dX5_joins_52 (lv_at hl 0 rfl) ?_
              refine lv_if_le (tgt := 84) hx hb dX5_joins_54 (by decide) (fun c11 => ?_) (fun c11 => ?_)
              · replace hp := hp.1 c11
                replace he := he.trans (if_pos c11)
                refine lv_iconst (v := 0) hx hb dX5_joins_84 (by decide) ?_
                subst he
                exact kont8 (Or.inl rfl) _ _ hP hD hS _ (lv_sub hl [0, 1, 2, 3, 4, 5] rfl)
              · replace hp := hp.2 c11
                replace he := he.trans (if_neg c11)
                refine lv_aload_n hx hb dX5_joins_57 rfl (lv_at hl 4 rfl) ?_
                refine va_get (D := D) (ci := 5) (v := .int mr) (C := RX5) (T := TX5) (N := 16) hx hb hts (by decide +kernel) hown hK hP 0 rfl rfl 2 (by decide) (hts (.fieldLink RX5 68 "AlarmgroveModel" "raised" "I") (by decide +kernel)) (fun _ h9 => h9) rfl dX5_joins_58 ?_
                refine lv_iload hx hb dX5_joins_61 (lv_at hl 1 rfl) ?_
                refine k_calli (S := Unit) (wc := ([] : va_W)) (wr := (W_X5 cI m0 m1 m2 m3 m4 m5 m6 m7 m8 m9 m10 m11 mr mc me mw mh mn mu ms mt md mz mi mk mo mj ml)) (w1 := fun u => ([] : va_W)) (fun u => (W_X5 cI m0 m1 m2 m3 m4 m5 m6 m7 m8 m9 m10 m11 mr mc me mw mh mn mu ms mt md mz mi mk mo mj ml)) hP hK hD hN hS hA [] [0, 1, 2, 3, 4, 5, 6, 7, 8, 9, 10, 11] rfl rfl (by decide) (by decide) (by decide) [0, 1, 2, 3, 4, 5, 6, 7, 8, 9, 10, 11] (by decide) (fun _ => rfl) (fun hg => va_runS (As := [.int mr, .int v7_4]) (rest := []) ⟨hx, hb, hml, hown, hts⟩ (c_X5_has l D cI _ mr v7_4) (va_cwS 2 hts gX5_joins_X5_has rfl rfl rfl (by decide +kernel) ⟨Nat.le_of_ble_eq_true rfl, Nat.le_of_ble_eq_true rfl⟩) ⟨PW.blind, fun U hU hW => ⟨rfl, hg U hU hW⟩⟩ rfl rfl hl.1 rfl (lv_room (Nat.le_of_ble_eq_true rfl)) dX5_joins_63 ⟨Nat.le_of_ble_eq_true rfl, Nat.le_of_ble_eq_true rfl⟩) (fun r12 u H locs hw hP hD hS => ?_)
                obtain ⟨hw, hb12⟩ := hw
                subst hw
                refine lv_if_eq (tgt := 84) hx hb dX5_joins_66 (by decide) (fun c13 => ?_) (fun c13 => ?_)
                · replace hp := hp.1 c13
                  replace he := he.trans (if_pos c13)
                  refine lv_iconst (v := 0) hx hb dX5_joins_84 (by decide) ?_
                  subst he
                  exact kont8 (Or.inl rfl) _ _ hP hD hS _ (lv_sub hl [0, 1, 2, 3, 4, 5] rfl)
                · replace hp := hp.2 c13
                  replace he := he.trans (if_neg c13)
                  refine lv_aload_n hx hb dX5_joins_69 rfl (lv_at hl 4 rfl) ?_
                  refine va_get (D := D) (ci := 5) (v := .int mr) (C := RX5) (T := TX5) (N := 16) hx hb hts (by decide +kernel) hown hK hP 0 rfl rfl 2 (by decide) (hts (.fieldLink RX5 68 "AlarmgroveModel" "raised" "I") (by decide +kernel)) (fun _ h9 => h9) rfl dX5_joins_70 ?_
                  refine lv_iload_n hx hb dX5_joins_73 rfl (lv_at hl 3 rfl) ?_
                  refine k_calli (S := Unit) (wc := ([] : va_W)) (wr := (W_X5 cI m0 m1 m2 m3 m4 m5 m6 m7 m8 m9 m10 m11 mr mc me mw mh mn mu ms mt md mz mi mk mo mj ml)) (w1 := fun u => ([] : va_W)) (fun u => (W_X5 cI m0 m1 m2 m3 m4 m5 m6 m7 m8 m9 m10 m11 mr mc me mw mh mn mu ms mt md mz mi mk mo mj ml)) hP hK hD hN hS hA [] [0, 1, 2, 3, 4, 5, 6, 7, 8, 9, 10, 11] rfl rfl (by decide) (by decide) (by decide) [0, 1, 2, 3, 4, 5, 6, 7, 8, 9, 10, 11] (by decide) (fun _ => rfl) (fun hg => va_runS (As := [.int mr, .int v7_2]) (rest := []) ⟨hx, hb, hml, hown, hts⟩ (c_X5_has l D cI _ mr v7_2) (va_cwS 2 hts gX5_joins_X5_has rfl rfl rfl (by decide +kernel) ⟨Nat.le_of_ble_eq_true rfl, Nat.le_of_ble_eq_true rfl⟩) ⟨PW.blind, fun U hU hW => ⟨rfl, hg U hU hW⟩⟩ rfl rfl hl.1 rfl (lv_room (Nat.le_of_ble_eq_true rfl)) dX5_joins_74 ⟨Nat.le_of_ble_eq_true rfl, Nat.le_of_ble_eq_true rfl⟩) (fun r14 u H locs hw hP hD hS => ?_)
                  obtain ⟨hw, hb14⟩ := hw
                  subst hw
                  refine lv_if_ne (tgt := 84) hx hb dX5_joins_77 (by decide) (fun c15 => ?_) (fun c15 => ?_)
                  · replace hp := hp.2 c15
                    replace he := he.trans (if_neg c15)
                    refine lv_iconst (v := 0) hx hb dX5_joins_84 (by decide) ?_
                    subst he
                    exact kont8 (Or.inl rfl) _ _ hP hD hS _ (lv_sub hl [0, 1, 2, 3, 4, 5] rfl)
                  · replace hp := hp.1 c15
                    replace he := he.trans (if_pos c15)
                    refine lv_iconst (v := 1) hx hb dX5_joins_80 (by decide) ?_
                    refine lv_goto (tgt := 85) hx hb dX5_joins_81 (by decide) ?_
                    subst he
                    exact kont8 (Or.inr rfl) _ _ hP hD hS _ (lv_sub hl [0, 1, 2, 3, 4, 5] rfl)
        replace he := hJ4
        replace hp := hpJ4
        refine lv_if_eq (tgt := 37) hx hb dX5_joins_20 (by decide) (fun c5 => ?_) (fun c5 => ?_)
        · replace hp := hp.1 c5
          replace he := he.trans (if_pos c5)
          refine lv_iconst (v := 0) hx hb dX5_joins_37 (by decide) ?_
          subst he
          exact kont4 _ _ hP hD hS _ (lv_sub hl [0, 1, 2, 3, 4] rfl)
        · replace hp := hp.2 c5
          replace he := he.trans (if_neg c5)
          refine lv_aload_n hx hb dX5_joins_23 rfl (lv_at hl 3 rfl) ?_
          refine lv_iload hx hb dX5_joins_24 (lv_at hl 0 rfl) ?_
          have hq6 := hp.1
          replace hp := hp.2
          refine k_calli (S := Unit) (wc := (W_X5 cI m0 m1 m2 m3 m4 m5 m6 m7 m8 m9 m10 m11 mr mc me mw mh mn mu ms mt md mz mi mk mo mj ml)) (wr := ([] : va_W)) (w1 := fun u => (W_X5 cI m0 m1 m2 m3 m4 m5 m6 m7 m8 m9 m10 m11 mr mc me mw mh mn mu ms mt md mz mi mk mo mj ml)) (fun u => (W_X5 cI m0 m1 m2 m3 m4 m5 m6 m7 m8 m9 m10 m11 mr mc me mw mh mn mu ms mt md mz mi mk mo mj ml)) hP hK hD hN hS hA [0, 1, 2, 3, 4, 5, 6, 7, 8, 9, 10, 11] [] rfl rfl (by decide) (by decide) (by decide) [0, 1, 2, 3, 4, 5, 6, 7, 8, 9, 10, 11] (by decide) (fun _ => rfl) (fun hg => va_runV (As := [.int v7_4]) (rest := []) ⟨hx, hb, hml, hown, hts⟩ (c_X5_explains l D cI m0 m1 m2 m3 m4 m5 m6 m7 m8 m9 m10 m11 mr mc me mw mh mn mu ms mt md mz mi mk mo mj ml _ v7_4 hq6) (cwV 1 hts gX5_joins_X5_explains rfl rfl rfl (by decide +kernel) ⟨Nat.le_of_ble_eq_true rfl, Nat.le_of_ble_eq_true rfl⟩) ⟨PW.blind, va_recv hK hP (ci := 5) (q0 := 0) rfl rfl, fun U hU hW => ⟨rfl, hg U hU hW⟩⟩ rfl rfl hl.1 rfl (lv_room (Nat.le_of_ble_eq_true rfl)) dX5_joins_26 ⟨Nat.le_of_ble_eq_true rfl, Nat.le_of_ble_eq_true rfl⟩) (fun r6 u H locs hw hP hD hS => ?_)
          subst hw
          refine lv_iload_n hx hb dX5_joins_29 rfl (lv_at hl 4 rfl) ?_
          refine lv_iand hx hb dX5_joins_30 ?_
          have hq7 := hp.1
          replace hp := hp.2
          refine k_calli (S := Unit) (wc := ([] : va_W)) (wr := (W_X5 cI m0 m1 m2 m3 m4 m5 m6 m7 m8 m9 m10 m11 mr mc me mw mh mn mu ms mt md mz mi mk mo mj ml)) (w1 := fun u => ([] : va_W)) (fun u => (W_X5 cI m0 m1 m2 m3 m4 m5 m6 m7 m8 m9 m10 m11 mr mc me mw mh mn mu ms mt md mz mi mk mo mj ml)) hP hK hD hN hS hA [] [0, 1, 2, 3, 4, 5, 6, 7, 8, 9, 10, 11] rfl rfl (by decide) (by decide) (by decide) [0, 1, 2, 3, 4, 5, 6, 7, 8, 9, 10, 11] (by decide) (fun _ => rfl) (fun hg => va_runS (As := [.int ((f_X5_explains mu v7_4) &&& a1)]) (rest := []) ⟨hx, hb, hml, hown, hts⟩ (c_X5_count l D cI _ ((f_X5_explains mu v7_4) &&& a1) hq7) (va_cwS 1 hts gX5_joins_X5_count rfl rfl rfl (by decide +kernel) ⟨Nat.le_of_ble_eq_true rfl, Nat.le_of_ble_eq_true rfl⟩) ⟨PW.blind, fun U hU hW => ⟨rfl, hg U hU hW⟩⟩ rfl rfl hl.1 rfl (lv_room (Nat.le_of_ble_eq_true rfl)) dX5_joins_31 ⟨Nat.le_of_ble_eq_true rfl, Nat.le_of_ble_eq_true rfl⟩) (fun r7 u H locs hw hP hD hS => ?_)
          subst hw
          refine lv_goto (tgt := 38) hx hb dX5_joins_34 (by decide) ?_
          subst he
          exact kont4 _ _ hP hD hS _ (lv_sub hl [0, 1, 2, 3, 4] rfl)
  exact loop1 15 ((-1) : Int32) (0 : Int32) (0 : Int32) hpL1 hL1 _ _ hP hD hS _ (lv_sub hl [0, 1, 2, 3, 4] rfl)
abbrev rm_X5_greedyCauses : Room := { frames := 3, cells := 0, slots := 0, locals := 70 }
abbrev Q_X5_greedyCauses (D : va_G) (cI : ClassId) (m0 m1 m2 m3 m4 m5 m6 m7 m8 m9 m10 m11 : Nat) (mr : Int32) (mc : Int32) (me : Int32) (mw : Int32) (mh : Int32) (mn : AA) (mu : AA) (ms : AA) (mt : AA) (md : AA) (mz : AA) (mi : AA) (mk : AA) (mo : AA) (mj : AA) (ml : AA) (A : Nat → Prop) : Array Value → State → Outcome → State → Prop := va_Qi (S := Int32) (fun r u => f_X5_greedyCauses mr mn mu = (r, u)) (fun u t => QW D [(cI, .int)] A (W_X5 cI m0 m1 m2 m3 m4 m5 m6 m7 m8 m9 m10 m11 mr mc me mw u mn mu ms mt md mz mi mk mo mj ml) t) A
set_option maxHeartbeats 4000000 in
set_option maxRecDepth 100000 in
theorem c_X5_greedyCauses (l : Launch)  (D : va_G) (cI : ClassId) (m0 m1 m2 m3 m4 m5 m6 m7 m8 m9 m10 m11 : Nat) (mr : Int32) (mc : Int32) (me : Int32) (mw : Int32) (mh : Int32) (mn : AA) (mu : AA) (ms : AA) (mt : AA) (md : AA) (mz : AA) (mi : AA) (mk : AA) (mo : AA) (mj : AA) (ml : AA) (sz : Nat) (hp : p_X5_greedyCauses mr mn mu) : Met l yX5_greedyCauses wsX5_greedyCauses rm_X5_greedyCauses (va_Pc [.ref m0] (PW D [(cI, .int)] sz (W_X5 cI m0 m1 m2 m3 m4 m5 m6 m7 m8 m9 m10 m11 mr mc me mw mh mn mu ms mt md mz mi mk mo mj ml))) (Q_X5_greedyCauses D cI m0 m1 m2 m3 m4 m5 m6 m7 m8 m9 m10 m11 mr mc me mw mh mn mu ms mt md mz mi mk mo mj ml (va_A (W_X5 cI m0 m1 m2 m3 m4 m5 m6 m7 m8 m9 m10 m11 mr mc me mw mh mn mu ms mt md mz mi mk mo mj ml) sz)) 0 0 (va_A (W_X5 cI m0 m1 m2 m3 m4 m5 m6 m7 m8 m9 m10 m11 mr mc me mw mh mn mu ms mt md mz mi mk mo mj ml) sz) := by
  refine Met.ofW (cc := cX5_greedyCauses) (maxL := 3) (ret := (some .int)) (by decide) rfl ?_
  intro p e s m args below meth c s₁ B hml hv
  obtain ⟨rfl, hsz, hP, hK, hD0, hN⟩ := hv
  have hx := B.exec
  have hb := B.bytes
  have hr := B.returns
  have hts := atoms_spec (ws := wsX5_greedyCauses) B.pre
  have hown : s.vm.findClass RX5 = some m.cls := findClass_of_methodNamed B.named
  have hlocks := B.notSynchronized
  subst hsz
  have hD := hD0.self (sz := s.heap.size)
  generalize hAe : va_A (W_X5 cI m0 m1 m2 m3 m4 m5 m6 m7 m8 m9 m10 m11 mr mc me mw mh mn mu ms mt md mz mi mk mo mj ml) s.heap.size = A at hD ⊢
  have hA : ∀ q : Nat, s.heap.size ≤ q → A q := fun q h => by rw [← hAe]; exact Or.inr h
  have hS : va_S A s.heap s.heap [] := va_S.rf
  have hl := lv_entry ([.ref m0]) (n := 3) (Nat.le_of_ble_eq_true rfl)
  rw [lg_entry_eq]
  generalize (lg_sl ([.ref m0]) ++ List.replicate (3 - (lg_sl ([.ref m0])).length) Slot.unset).toArray = ls at hl ⊢
  have hl : lv_has ls 3 [(0, .ref m0)] := hl
  have he := f_X5_greedyCauses.eq_1 mr mn mu
  replace hp := Eq.mp (p_X5_greedyCauses.eq_1 ..) hp
  refine lv_aload_n hx hb dX5_greedyCauses_0 rfl (lv_at hl 0 rfl) ?_
  refine lv_iconst (v := 0) hx hb dX5_greedyCauses_1 (by decide) ?_
  refine va_put (D := D) (ci := 5) (v := .int 0) (ty := .int) (C := RX5) (T := TX5) (N := 16) hx hb hts (by decide +kernel) tyX5 tyX5_ok nmX5 hown hK hP hD hS 0 rfl rfl 15 (by decide) (hts (.fieldLink RX5 43 "AlarmgroveModel" "thrown" "I") (by decide +kernel)) (fun _ h9 => h9) rfl (by decide +kernel) rfl rfl (Nat.le_of_ble_eq_true rfl) dX5_greedyCauses_2 (fun H locs hP hD hS => ?_)
  have hP : va_P D vwCl (W_X5 cI m0 m1 m2 m3 m4 m5 m6 m7 m8 m9 m10 m11 mr mc me mw 0 mn mu ms mt md mz mi mk mo mj ml) H := hP
  have hD : va_D A (W_X5 cI m0 m1 m2 m3 m4 m5 m6 m7 m8 m9 m10 m11 mr mc me mw 0 mn mu ms mt md mz mi mk mo mj ml) := hD
  refine lv_aload_n hx hb dX5_greedyCauses_5 rfl (lv_at hl 0 rfl) ?_
  refine va_get (D := D) (ci := 5) (v := .int mr) (C := RX5) (T := TX5) (N := 16) hx hb hts (by decide +kernel) hown hK hP 0 rfl rfl 2 (by decide) (hts (.fieldLink RX5 68 "AlarmgroveModel" "raised" "I") (by decide +kernel)) (fun _ h9 => h9) rfl dX5_greedyCauses_6 ?_
  refine lv_istore_n (lv' := [(1, .int mr), (0, .ref m0)]) hx hb dX5_greedyCauses_9 rfl hl (by decide) rfl (fun ls hl => ?_)
  refine lv_iconst (v := 0) hx hb dX5_greedyCauses_10 (by decide) ?_
  refine lv_istore_n (lv' := [(2, .int 0), (1, .int mr), (0, .ref m0)]) hx hb dX5_greedyCauses_11 rfl hl (by decide) rfl (fun ls hl => ?_)
  obtain ⟨⟨r1_v12_1, r1_v12_2⟩, hL1⟩ : ∃ z, z = f_X5_greedyCauses_L12 mr mn mu 16 mr (0 : Int32) := ⟨_, rfl⟩
  rw [← hL1] at he
  try dsimp only at he
  have hpL1 := hp.1
  replace hp := hp.2 _ _ hL1.symm
  have kont1 : ∀ (x1_v12_1 : Int32) (x1_v12_2 : Int32), (r1_v12_1, r1_v12_2) = (x1_v12_1, x1_v12_2) → ∀ (H : Heap) (locs : List Loc), va_P D vwCl (W_X5 cI m0 m1 m2 m3 m4 m5 m6 m7 m8 m9 m10 m11 mr mc me mw 0 mn mu ms mt md mz mi mk mo mj ml) H → va_D A (W_X5 cI m0 m1 m2 m3 m4 m5 m6 m7 m8 m9 m10 m11 mr mc me mw 0 mn mu ms mt md mz mi mk mo mj ml) → va_S A s.heap H locs → ∀ ls : Array Slot, lv_has ls 3 [(2, .int x1_v12_2)] → W p l e (headSpec wsX5_greedyCauses rm_X5_greedyCauses).room s m ([.ref m0] : List Value).toArray below meth c H locs 0 0 (MQ below (Q_X5_greedyCauses D cI m0 m1 m2 m3 m4 m5 m6 m7 m8 m9 m10 m11 mr mc me mw mh mn mu ms mt md mz mi mk mo mj ml A) ([.ref m0] : List Value).toArray s 0 0 A) (F0 m 36 ls []) := by
    intro x1_v12_1 x1_v12_2 hxe H locs hP hD hS ls hl
    simp only [Prod.mk.injEq] at hxe
    obtain ⟨rfl, rfl⟩ := hxe
    refine lv_iload_n hx hb dX5_greedyCauses_36 rfl (lv_at hl 0 rfl) ?_
    exact W.iret (v := r1_v12_2) hx hb hr (fun t ht hW => ⟨⟨r1_v12_2, 0, rfl, he, by rw [ht]; exact hP, va_K.moved hW.alike hK, hD⟩, hS.F ht⟩) hS.2.2 dX5_greedyCauses_37
  have loop1 : ∀ (n : Nat) (v12_1 : Int32) (v12_2 : Int32), p_X5_greedyCauses_L12 mr mn mu n v12_1 v12_2 → (r1_v12_1, r1_v12_2) = f_X5_greedyCauses_L12 mr mn mu n v12_1 v12_2 → ∀ (H : Heap) (locs : List Loc), va_P D vwCl (W_X5 cI m0 m1 m2 m3 m4 m5 m6 m7 m8 m9 m10 m11 mr mc me mw 0 mn mu ms mt md mz mi mk mo mj ml) H → va_D A (W_X5 cI m0 m1 m2 m3 m4 m5 m6 m7 m8 m9 m10 m11 mr mc me mw 0 mn mu ms mt md mz mi mk mo mj ml) → va_S A s.heap H locs → ∀ ls : Array Slot, lv_has ls 3 [(2, .int v12_2), (1, .int v12_1), (0, .ref m0)] → W p l e (headSpec wsX5_greedyCauses rm_X5_greedyCauses).room s m ([.ref m0] : List Value).toArray below meth c H locs 0 0 (MQ below (Q_X5_greedyCauses D cI m0 m1 m2 m3 m4 m5 m6 m7 m8 m9 m10 m11 mr mc me mw mh mn mu ms mt md mz mi mk mo mj ml A) ([.ref m0] : List Value).toArray s 0 0 A) (F0 m 12 ls []) := by
    intro n
    induction n with
    | zero => exact fun _ _ hp => hp.elim
    | succ n ih =>
      intro v12_1 v12_2 hp he H locs hP hD hS ls hl
      replace hp := Eq.mp (p_X5_greedyCauses_L12.eq_2 ..) hp
      replace he := he.trans (f_X5_greedyCauses_L12.eq_2 ..)
      refine lv_iload_n hx hb dX5_greedyCauses_12 rfl (lv_at hl 1 rfl) ?_
      refine lv_if_eq (tgt := 36) hx hb dX5_greedyCauses_13 (by decide) (fun c2 => ?_) (fun c2 => ?_)
      · replace hp := hp.1 c2
        replace he := he.trans (if_pos c2)
        exact kont1 _ _ he _ _ hP hD hS _ (lv_sub hl [0] rfl)
      · replace hp := hp.2 c2
        replace he := he.trans (if_neg c2)
        refine lv_iload_n hx hb dX5_greedyCauses_16 rfl (lv_at hl 1 rfl) ?_
        refine lv_aload_n hx hb dX5_greedyCauses_17 rfl (lv_at hl 2 rfl) ?_
        refine lv_aload_n hx hb dX5_greedyCauses_18 rfl (lv_at hl 2 rfl) ?_
        refine lv_iload_n hx hb dX5_greedyCauses_19 rfl (lv_at hl 1 rfl) ?_
        have hq3 := hp.1
        replace hp := hp.2
        refine k_calli (S := Unit) (wc := (W_X5 cI m0 m1 m2 m3 m4 m5 m6 m7 m8 m9 m10 m11 mr mc me mw 0 mn mu ms mt md mz mi mk mo mj ml)) (wr := ([] : va_W)) (w1 := fun u => (W_X5 cI m0 m1 m2 m3 m4 m5 m6 m7 m8 m9 m10 m11 mr mc me mw 0 mn mu ms mt md mz mi mk mo mj ml)) (fun u => (W_X5 cI m0 m1 m2 m3 m4 m5 m6 m7 m8 m9 m10 m11 mr mc me mw 0 mn mu ms mt md mz mi mk mo mj ml)) hP hK hD hN hS hA [0, 1, 2, 3, 4, 5, 6, 7, 8, 9, 10, 11] [] rfl rfl (by decide) (by decide) (by decide) [0, 1, 2, 3, 4, 5, 6, 7, 8, 9, 10, 11] (by decide) (fun _ => rfl) (fun hg => va_runV (As := [.int v12_1]) (rest := [.ref m0, .int v12_1]) ⟨hx, hb, hml, hown, hts⟩ (c_X5_joins l D cI m0 m1 m2 m3 m4 m5 m6 m7 m8 m9 m10 m11 mr mc me mw (0 : Int32) mn mu ms mt md mz mi mk mo mj ml _ v12_1 hq3) (cwV 1 hts gX5_greedyCauses_X5_joins rfl rfl rfl (by decide +kernel) ⟨Nat.le_of_ble_eq_true rfl, Nat.le_of_ble_eq_true rfl⟩) ⟨PW.blind, va_recv hK hP (ci := 5) (q0 := 0) rfl rfl, fun U hU hW => ⟨rfl, hg U hU hW⟩⟩ rfl rfl hl.1 rfl (lv_room (Nat.le_of_ble_eq_true rfl)) dX5_greedyCauses_20 ⟨Nat.le_of_ble_eq_true rfl, Nat.le_of_ble_eq_true rfl⟩) (fun r3 u H locs hw hP hD hS => ?_)
        subst hw
        have hq4 := hp.1
        replace hp := hp.2
        refine k_calli (S := Unit) (wc := (W_X5 cI m0 m1 m2 m3 m4 m5 m6 m7 m8 m9 m10 m11 mr mc me mw 0 mn mu ms mt md mz mi mk mo mj ml)) (wr := ([] : va_W)) (w1 := fun u => (W_X5 cI m0 m1 m2 m3 m4 m5 m6 m7 m8 m9 m10 m11 mr mc me mw 0 mn mu ms mt md mz mi mk mo mj ml)) (fun u => (W_X5 cI m0 m1 m2 m3 m4 m5 m6 m7 m8 m9 m10 m11 mr mc me mw 0 mn mu ms mt md mz mi mk mo mj ml)) hP hK hD hN hS hA [0, 1, 2, 3, 4, 5, 6, 7, 8, 9, 10, 11] [] rfl rfl (by decide) (by decide) (by decide) [0, 1, 2, 3, 4, 5, 6, 7, 8, 9, 10, 11] (by decide) (fun _ => rfl) (fun hg => va_runV (As := [.int (f_X5_joins mr mn mu v12_1)]) (rest := [.int v12_1]) ⟨hx, hb, hml, hown, hts⟩ (c_X5_explains l D cI m0 m1 m2 m3 m4 m5 m6 m7 m8 m9 m10 m11 mr mc me mw (0 : Int32) mn mu ms mt md mz mi mk mo mj ml _ (f_X5_joins mr mn mu v12_1) hq4) (cwV 1 hts gX5_greedyCauses_X5_explains rfl rfl rfl (by decide +kernel) ⟨Nat.le_of_ble_eq_true rfl, Nat.le_of_ble_eq_true rfl⟩) ⟨PW.blind, va_recv hK hP (ci := 5) (q0 := 0) rfl rfl, fun U hU hW => ⟨rfl, hg U hU hW⟩⟩ rfl rfl hl.1 rfl (lv_room (Nat.le_of_ble_eq_true rfl)) dX5_greedyCauses_23 ⟨Nat.le_of_ble_eq_true rfl, Nat.le_of_ble_eq_true rfl⟩) (fun r4 u H locs hw hP hD hS => ?_)
        subst hw
        refine lv_iconst (v := (-1)) hx hb dX5_greedyCauses_26 (by decide) ?_
        refine lv_ixor hx hb dX5_greedyCauses_27 ?_
        refine lv_iand hx hb dX5_greedyCauses_28 ?_
        refine lv_istore_n (lv' := [(1, .int (v12_1 &&& ((f_X5_explains mu (f_X5_joins mr mn mu v12_1)) ^^^ (-1)))), (2, .int v12_2), (0, .ref m0)]) hx hb dX5_greedyCauses_29 rfl hl (by decide) rfl (fun ls hl => ?_)
        refine lv_iinc (v := (v12_2 + 1)) (lv' := [(2, .int (v12_2 + 1)), (1, .int (v12_1 &&& ((f_X5_explains mu (f_X5_joins mr mn mu v12_1)) ^^^ (-1)))), (0, .ref m0)]) hx hb dX5_greedyCauses_30 hl (k := 1) rfl rfl (by decide) rfl (fun ls hl => ?_)
        refine lv_goto (tgt := 12) hx hb dX5_greedyCauses_33 (by decide) ?_
        exact ih _ _ hp he _ _ hP hD hS _ (lv_sub hl [0, 1, 2] rfl)
  exact loop1 16 mr (0 : Int32) hpL1 hL1 _ _ hP hD hS _ (lv_sub hl [0, 1, 2] rfl)
abbrev rm_X5_greedyCause : Room := { frames := 3, cells := 0, slots := 0, locals := 70 }
abbrev Q_X5_greedyCause (D : va_G) (cI : ClassId) (m0 m1 m2 m3 m4 m5 m6 m7 m8 m9 m10 m11 : Nat) (mr : Int32) (mc : Int32) (me : Int32) (mw : Int32) (mh : Int32) (mn : AA) (mu : AA) (ms : AA) (mt : AA) (md : AA) (mz : AA) (mi : AA) (mk : AA) (mo : AA) (mj : AA) (ml : AA) (a1 : Int32) (A : Nat → Prop) : Array Value → State → Outcome → State → Prop := va_Qi (S := Int32) (fun r u => f_X5_greedyCause mr mn mu a1 = (r, u)) (fun u t => QW D [(cI, .int)] A (W_X5 cI m0 m1 m2 m3 m4 m5 m6 m7 m8 m9 m10 m11 mr mc me mw u mn mu ms mt md mz mi mk mo mj ml) t) A
set_option maxHeartbeats 4000000 in
set_option maxRecDepth 100000 in
theorem c_X5_greedyCause (l : Launch)  (D : va_G) (cI : ClassId) (m0 m1 m2 m3 m4 m5 m6 m7 m8 m9 m10 m11 : Nat) (mr : Int32) (mc : Int32) (me : Int32) (mw : Int32) (mh : Int32) (mn : AA) (mu : AA) (ms : AA) (mt : AA) (md : AA) (mz : AA) (mi : AA) (mk : AA) (mo : AA) (mj : AA) (ml : AA) (sz : Nat) (a1 : Int32) (hp : p_X5_greedyCause mr mn mu a1) : Met l yX5_greedyCause wsX5_greedyCause rm_X5_greedyCause (va_Pc [.ref m0, .int a1] (PW D [(cI, .int)] sz (W_X5 cI m0 m1 m2 m3 m4 m5 m6 m7 m8 m9 m10 m11 mr mc me mw mh mn mu ms mt md mz mi mk mo mj ml))) (Q_X5_greedyCause D cI m0 m1 m2 m3 m4 m5 m6 m7 m8 m9 m10 m11 mr mc me mw mh mn mu ms mt md mz mi mk mo mj ml a1 (va_A (W_X5 cI m0 m1 m2 m3 m4 m5 m6 m7 m8 m9 m10 m11 mr mc me mw mh mn mu ms mt md mz mi mk mo mj ml) sz)) 0 0 (va_A (W_X5 cI m0 m1 m2 m3 m4 m5 m6 m7 m8 m9 m10 m11 mr mc me mw mh mn mu ms mt md mz mi mk mo mj ml) sz) := by
  refine Met.ofW (cc := cX5_greedyCause) (maxL := 5) (ret := (some .int)) (by decide) rfl ?_
  intro p e s m args below meth c s₁ B hml hv
  obtain ⟨rfl, hsz, hP, hK, hD0, hN⟩ := hv
  have hx := B.exec
  have hb := B.bytes
  have hr := B.returns
  have hts := atoms_spec (ws := wsX5_greedyCause) B.pre
  have hown : s.vm.findClass RX5 = some m.cls := findClass_of_methodNamed B.named
  have hlocks := B.notSynchronized
  subst hsz
  have hD := hD0.self (sz := s.heap.size)
  generalize hAe : va_A (W_X5 cI m0 m1 m2 m3 m4 m5 m6 m7 m8 m9 m10 m11 mr mc me mw mh mn mu ms mt md mz mi mk mo mj ml) s.heap.size = A at hD ⊢
  have hA : ∀ q : Nat, s.heap.size ≤ q → A q := fun q h => by rw [← hAe]; exact Or.inr h
  have hS : va_S A s.heap s.heap [] := va_S.rf
  have hl := lv_entry ([.ref m0, .int a1]) (n := 5) (Nat.le_of_ble_eq_true rfl)
  rw [lg_entry_eq]
  generalize (lg_sl ([.ref m0, .int a1]) ++ List.replicate (5 - (lg_sl ([.ref m0, .int a1])).length) Slot.unset).toArray = ls at hl ⊢
  have hl : lv_has ls 5 [(0, .ref m0), (1, .int a1)] := hl
  have he := f_X5_greedyCause.eq_1 mr mn mu a1
  replace hp := Eq.mp (p_X5_greedyCause.eq_1 ..) hp
  refine lv_aload_n hx hb dX5_greedyCause_0 rfl (lv_at hl 0 rfl) ?_
  refine va_get (D := D) (ci := 5) (v := .int mr) (C := RX5) (T := TX5) (N := 16) hx hb hts (by decide +kernel) hown hK hP 0 rfl rfl 2 (by decide) (hts (.fieldLink RX5 68 "AlarmgroveModel" "raised" "I") (by decide +kernel)) (fun _ h9 => h9) rfl dX5_greedyCause_1 ?_
  refine lv_istore_n (lv' := [(2, .int mr), (0, .ref m0), (1, .int a1)]) hx hb dX5_greedyCause_4 rfl hl (by decide) rfl (fun ls hl => ?_)
  refine lv_iconst (v := (-1)) hx hb dX5_greedyCause_5 (by decide) ?_
  refine lv_istore_n (lv' := [(3, .int (-1)), (2, .int mr), (0, .ref m0), (1, .int a1)]) hx hb dX5_greedyCause_6 rfl hl (by decide) rfl (fun ls hl => ?_)
  refine lv_iconst (v := 0) hx hb dX5_greedyCause_7 (by decide) ?_
  refine lv_istore (lv' := [(4, .int 0), (3, .int (-1)), (2, .int mr), (0, .ref m0), (1, .int a1)]) hx hb dX5_greedyCause_8 hl (by decide) rfl (fun ls hl => ?_)
  obtain ⟨⟨r1_v10_2, r1_v10_3, r1_v10_4⟩, hL1⟩ : ∃ z, z = f_X5_greedyCause_L10 mr mn mu a1 16 mr ((-1) : Int32) (0 : Int32) := ⟨_, rfl⟩
  rw [← hL1] at he
  try dsimp only at he
  have hpL1 := hp.1
  replace hp := hp.2 _ _ _ hL1.symm
  have kont1 : ∀ (x1_v10_2 : Int32) (x1_v10_3 : Int32) (x1_v10_4 : Int32), (r1_v10_2, r1_v10_3, r1_v10_4) = (x1_v10_2, x1_v10_3, x1_v10_4) → ∀ (H : Heap) (locs : List Loc), va_P D vwCl (W_X5 cI m0 m1 m2 m3 m4 m5 m6 m7 m8 m9 m10 m11 mr mc me mw mh mn mu ms mt md mz mi mk mo mj ml) H → va_D A (W_X5 cI m0 m1 m2 m3 m4 m5 m6 m7 m8 m9 m10 m11 mr mc me mw mh mn mu ms mt md mz mi mk mo mj ml) → va_S A s.heap H locs → ∀ ls : Array Slot, lv_has ls 5 [(3, .int x1_v10_3), (0, .ref m0), (1, .int a1)] → W p l e (headSpec wsX5_greedyCause rm_X5_greedyCause).room s m ([.ref m0, .int a1] : List Value).toArray below meth c H locs 0 0 (MQ below (Q_X5_greedyCause D cI m0 m1 m2 m3 m4 m5 m6 m7 m8 m9 m10 m11 mr mc me mw mh mn mu ms mt md mz mi mk mo mj ml a1 A) ([.ref m0, .int a1] : List Value).toArray s 0 0 A) (F0 m 60 ls []) := by
    intro x1_v10_2 x1_v10_3 x1_v10_4 hxe H locs hP hD hS ls hl
    simp only [Prod.mk.injEq] at hxe
    obtain ⟨rfl, rfl, rfl⟩ := hxe
    refine lv_aload_n hx hb dX5_greedyCause_60 rfl (lv_at hl 1 rfl) ?_
    refine lv_iload_n hx hb dX5_greedyCause_61 rfl (lv_at hl 2 rfl) ?_
    obtain ⟨j10, hJ10⟩ : ∃ z : Int32, z = (if a1 < 0 then (0 : Int32) else (if r1_v10_3 < 0 then (0 : Int32) else (1 : Int32))) := ⟨_, rfl⟩
    rw [← hJ10] at he
    try dsimp only at he
    have hpJ10 := hp.1
    replace hp := hp.2 _  hJ10.symm
    have kont10 : (j10 = 0 ∨ j10 = 1) → ∀ (H : Heap) (locs : List Loc), va_P D vwCl (W_X5 cI m0 m1 m2 m3 m4 m5 m6 m7 m8 m9 m10 m11 mr mc me mw mh mn mu ms mt md mz mi mk mo mj ml) H → va_D A (W_X5 cI m0 m1 m2 m3 m4 m5 m6 m7 m8 m9 m10 m11 mr mc me mw mh mn mu ms mt md mz mi mk mo mj ml) → va_S A s.heap H locs → ∀ ls : Array Slot, lv_has ls 5 [(3, .int r1_v10_3)] → W p l e (headSpec wsX5_greedyCause rm_X5_greedyCause).room s m ([.ref m0, .int a1] : List Value).toArray below meth c H locs 0 0 (MQ below (Q_X5_greedyCause D cI m0 m1 m2 m3 m4 m5 m6 m7 m8 m9 m10 m11 mr mc me mw mh mn mu ms mt md mz mi mk mo mj ml a1 A) ([.ref m0, .int a1] : List Value).toArray s 0 0 A) (F0 m 74 ls [.int j10, .ref m0]) := by
      intro hb10 H locs hP hD hS ls hl
      refine lv_iconst (v := 1) hx hb dX5_greedyCause_74 (by decide) ?_
      refine k_calli (S := Int32) (wc := (W_X5 cI m0 m1 m2 m3 m4 m5 m6 m7 m8 m9 m10 m11 mr mc me mw mh mn mu ms mt md mz mi mk mo mj ml)) (wr := ([] : va_W)) (w1 := fun u => (W_X5 cI m0 m1 m2 m3 m4 m5 m6 m7 m8 m9 m10 m11 mr mc me mw u mn mu ms mt md mz mi mk mo mj ml)) (fun u => (W_X5 cI m0 m1 m2 m3 m4 m5 m6 m7 m8 m9 m10 m11 mr mc me mw u mn mu ms mt md mz mi mk mo mj ml)) hP hK hD hN hS hA [0, 1, 2, 3, 4, 5, 6, 7, 8, 9, 10, 11] [] rfl rfl (by decide) (by decide) (by decide) [0, 1, 2, 3, 4, 5, 6, 7, 8, 9, 10, 11] (by decide) (fun _ => rfl) (fun hg => va_runV (As := [.int j10, .int 1]) (rest := []) ⟨hx, hb, hml, hown, hts⟩ (c_X5_goes l D cI m0 m1 m2 m3 m4 m5 m6 m7 m8 m9 m10 m11 mr mc me mw mh mn mu ms mt md mz mi mk mo mj ml _ j10 1) (cwV 2 hts gX5_greedyCause_X5_goes rfl rfl rfl (by decide +kernel) ⟨Nat.le_of_ble_eq_true rfl, Nat.le_of_ble_eq_true rfl⟩) ⟨PW.blind, va_recv hK hP (ci := 5) (q0 := 0) rfl rfl, fun U hU hW => ⟨rfl, hg U hU hW⟩⟩ rfl rfl hl.1 rfl (lv_room (Nat.le_of_ble_eq_true rfl)) dX5_greedyCause_75 ⟨Nat.le_of_ble_eq_true rfl, Nat.le_of_ble_eq_true rfl⟩) (fun r13 u H locs hw hP hD hS => ?_)
      obtain ⟨u13_0, rfl⟩ : ∃ z, z = u := ⟨_, rfl⟩
      obtain ⟨hw, hb13⟩ := hw
      rw [hw] at he
      try dsimp only at he
      replace hp := hp r13 u13_0 hw
      have hP : va_P D vwCl (W_X5 cI m0 m1 m2 m3 m4 m5 m6 m7 m8 m9 m10 m11 mr mc me mw u13_0 mn mu ms mt md mz mi mk mo mj ml) H := hP
      have hD : va_D A (W_X5 cI m0 m1 m2 m3 m4 m5 m6 m7 m8 m9 m10 m11 mr mc me mw u13_0 mn mu ms mt md mz mi mk mo mj ml) := hD
      obtain ⟨j14, hJ14⟩ : ∃ z : Int32, z = (if r13 = 0 then (0 : Int32) else r1_v10_3) := ⟨_, rfl⟩
      rw [← hJ14] at he
      try dsimp only at he
      have hpJ14 := hp.1
      replace hp := hp.2 _  hJ14.symm
      have kont14 : ∀ (H : Heap) (locs : List Loc), va_P D vwCl (W_X5 cI m0 m1 m2 m3 m4 m5 m6 m7 m8 m9 m10 m11 mr mc me mw u13_0 mn mu ms mt md mz mi mk mo mj ml) H → va_D A (W_X5 cI m0 m1 m2 m3 m4 m5 m6 m7 m8 m9 m10 m11 mr mc me mw u13_0 mn mu ms mt md mz mi mk mo mj ml) → va_S A s.heap H locs → ∀ ls : Array Slot, lv_has ls 5 [] → W p l e (headSpec wsX5_greedyCause rm_X5_greedyCause).room s m ([.ref m0, .int a1] : List Value).toArray below meth c H locs 0 0 (MQ below (Q_X5_greedyCause D cI m0 m1 m2 m3 m4 m5 m6 m7 m8 m9 m10 m11 mr mc me mw mh mn mu ms mt md mz mi mk mo mj ml a1 A) ([.ref m0, .int a1] : List Value).toArray s 0 0 A) (F0 m 86 ls [.int j14]) := by
        intro H locs hP hD hS ls hl
        exact W.iret (v := j14) hx hb hr (fun t ht hW => ⟨⟨j14, u13_0, rfl, he, by rw [ht]; exact hP, va_K.moved hW.alike hK, hD⟩, hS.F ht⟩) hS.2.2 dX5_greedyCause_86
      replace he := hJ14
      replace hp := hpJ14
      refine lv_if_eq (tgt := 85) hx hb dX5_greedyCause_78 (by decide) (fun c15 => ?_) (fun c15 => ?_)
      · replace hp := hp.1 c15
        replace he := he.trans (if_pos c15)
        refine lv_iconst (v := 0) hx hb dX5_greedyCause_85 (by decide) ?_
        subst he
        exact kont14 _ _ hP hD hS _ (lv_sub hl [] rfl)
      · replace hp := hp.2 c15
        replace he := he.trans (if_neg c15)
        refine lv_iload_n hx hb dX5_greedyCause_81 rfl (lv_at hl 0 rfl) ?_
        refine lv_goto (tgt := 86) hx hb dX5_greedyCause_82 (by decide) ?_
        subst he
        exact kont14 _ _ hP hD hS _ (lv_sub hl [] rfl)
    replace he := hJ10
    replace hp := hpJ10
    refine lv_if_lt (tgt := 73) hx hb dX5_greedyCause_62 (by decide) (fun c11 => ?_) (fun c11 => ?_)
    · replace hp := hp.1 c11
      replace he := he.trans (if_pos c11)
      refine lv_iconst (v := 0) hx hb dX5_greedyCause_73 (by decide) ?_
      subst he
      exact kont10 (Or.inl rfl) _ _ hP hD hS _ (lv_sub hl [0] rfl)
    · replace hp := hp.2 c11
      replace he := he.trans (if_neg c11)
      refine lv_iload_n hx hb dX5_greedyCause_65 rfl (lv_at hl 0 rfl) ?_
      refine lv_if_lt (tgt := 73) hx hb dX5_greedyCause_66 (by decide) (fun c12 => ?_) (fun c12 => ?_)
      · replace hp := hp.1 c12
        replace he := he.trans (if_pos c12)
        refine lv_iconst (v := 0) hx hb dX5_greedyCause_73 (by decide) ?_
        subst he
        exact kont10 (Or.inl rfl) _ _ hP hD hS _ (lv_sub hl [0] rfl)
      · replace hp := hp.2 c12
        replace he := he.trans (if_neg c12)
        refine lv_iconst (v := 1) hx hb dX5_greedyCause_69 (by decide) ?_
        refine lv_goto (tgt := 74) hx hb dX5_greedyCause_70 (by decide) ?_
        subst he
        exact kont10 (Or.inr rfl) _ _ hP hD hS _ (lv_sub hl [0] rfl)
  have loop1 : ∀ (n : Nat) (v10_2 : Int32) (v10_3 : Int32) (v10_4 : Int32), p_X5_greedyCause_L10 mr mn mu a1 n v10_2 v10_3 v10_4 → (r1_v10_2, r1_v10_3, r1_v10_4) = f_X5_greedyCause_L10 mr mn mu a1 n v10_2 v10_3 v10_4 → ∀ (H : Heap) (locs : List Loc), va_P D vwCl (W_X5 cI m0 m1 m2 m3 m4 m5 m6 m7 m8 m9 m10 m11 mr mc me mw mh mn mu ms mt md mz mi mk mo mj ml) H → va_D A (W_X5 cI m0 m1 m2 m3 m4 m5 m6 m7 m8 m9 m10 m11 mr mc me mw mh mn mu ms mt md mz mi mk mo mj ml) → va_S A s.heap H locs → ∀ ls : Array Slot, lv_has ls 5 [(4, .int v10_4), (3, .int v10_3), (2, .int v10_2), (0, .ref m0), (1, .int a1)] → W p l e (headSpec wsX5_greedyCause rm_X5_greedyCause).room s m ([.ref m0, .int a1] : List Value).toArray below meth c H locs 0 0 (MQ below (Q_X5_greedyCause D cI m0 m1 m2 m3 m4 m5 m6 m7 m8 m9 m10 m11 mr mc me mw mh mn mu ms mt md mz mi mk mo mj ml a1 A) ([.ref m0, .int a1] : List Value).toArray s 0 0 A) (F0 m 10 ls []) := by
    intro n
    induction n with
    | zero => exact fun _ _ _ hp => hp.elim
    | succ n ih =>
      intro v10_2 v10_3 v10_4 hp he H locs hP hD hS ls hl
      replace hp := Eq.mp (p_X5_greedyCause_L10.eq_2 ..) hp
      replace he := he.trans (f_X5_greedyCause_L10.eq_2 ..)
      refine lv_iload hx hb dX5_greedyCause_10 (lv_at hl 0 rfl) ?_
      refine lv_iload_n hx hb dX5_greedyCause_12 rfl (lv_at hl 4 rfl) ?_
      refine lv_icmp_gt (tgt := 60) hx hb dX5_greedyCause_13 (by decide) (fun c2 => ?_) (fun c2 => ?_)
      · replace hp := hp.1 c2
        replace he := he.trans (if_pos c2)
        exact kont1 _ _ _ he _ _ hP hD hS _ (lv_sub hl [1, 3, 4] rfl)
      · replace hp := hp.2 c2
        replace he := he.trans (if_neg c2)
        refine lv_iload_n hx hb dX5_greedyCause_16 rfl (lv_at hl 4 rfl) ?_
        refine lv_bipush (v := 14) hx hb dX5_greedyCause_17 (by decide) ?_
        refine lv_icmp_ge (tgt := 60) hx hb dX5_greedyCause_19 (by decide) (fun c3 => ?_) (fun c3 => ?_)
        · replace hp := hp.1 c3
          replace he := he.trans (if_pos c3)
          exact kont1 _ _ _ he _ _ hP hD hS _ (lv_sub hl [1, 3, 4] rfl)
        · replace hp := hp.2 c3
          replace he := he.trans (if_neg c3)
          refine lv_iload_n hx hb dX5_greedyCause_22 rfl (lv_at hl 2 rfl) ?_
          obtain ⟨j4, hJ4⟩ : ∃ z : Int32, z = (if v10_2 = 0 then ((-1) : Int32) else (f_X5_joins mr mn mu v10_2)) := ⟨_, rfl⟩
          rw [← hJ4] at he
          try dsimp only at he
          have hpJ4 := hp.1
          replace hp := hp.2 _  hJ4.symm
          have kont4 : ∀ (H : Heap) (locs : List Loc), va_P D vwCl (W_X5 cI m0 m1 m2 m3 m4 m5 m6 m7 m8 m9 m10 m11 mr mc me mw mh mn mu ms mt md mz mi mk mo mj ml) H → va_D A (W_X5 cI m0 m1 m2 m3 m4 m5 m6 m7 m8 m9 m10 m11 mr mc me mw mh mn mu ms mt md mz mi mk mo mj ml) → va_S A s.heap H locs → ∀ ls : Array Slot, lv_has ls 5 [(4, .int v10_4), (2, .int v10_2), (0, .ref m0), (1, .int a1)] → W p l e (headSpec wsX5_greedyCause rm_X5_greedyCause).room s m ([.ref m0, .int a1] : List Value).toArray below meth c H locs 0 0 (MQ below (Q_X5_greedyCause D cI m0 m1 m2 m3 m4 m5 m6 m7 m8 m9 m10 m11 mr mc me mw mh mn mu ms mt md mz mi mk mo mj ml a1 A) ([.ref m0, .int a1] : List Value).toArray s 0 0 A) (F0 m 35 ls [.int j4]) := by
            intro H locs hP hD hS ls hl
            refine lv_istore_n (lv' := [(3, .int j4), (4, .int v10_4), (2, .int v10_2), (0, .ref m0), (1, .int a1)]) hx hb dX5_greedyCause_35 rfl hl (by decide) rfl (fun ls hl => ?_)
            refine lv_iload_n hx hb dX5_greedyCause_36 rfl (lv_at hl 2 rfl) ?_
            refine lv_iload_n hx hb dX5_greedyCause_37 rfl (lv_at hl 0 rfl) ?_
            obtain ⟨j7, hJ7⟩ : ∃ z : Int32, z = (if 0 ≤ j4 then ((f_X5_explains mu j4) ^^^ (-1)) else (0 : Int32)) := ⟨_, rfl⟩
            rw [← hJ7] at he
            try dsimp only at he
            have hpJ7 := hp.1
            replace hp := hp.2 _  hJ7.symm
            have kont7 : ∀ (H : Heap) (locs : List Loc), va_P D vwCl (W_X5 cI m0 m1 m2 m3 m4 m5 m6 m7 m8 m9 m10 m11 mr mc me mw mh mn mu ms mt md mz mi mk mo mj ml) H → va_D A (W_X5 cI m0 m1 m2 m3 m4 m5 m6 m7 m8 m9 m10 m11 mr mc me mw mh mn mu ms mt md mz mi mk mo mj ml) → va_S A s.heap H locs → ∀ ls : Array Slot, lv_has ls 5 [(3, .int j4), (4, .int v10_4), (0, .ref m0), (1, .int a1)] → W p l e (headSpec wsX5_greedyCause rm_X5_greedyCause).room s m ([.ref m0, .int a1] : List Value).toArray below meth c H locs 0 0 (MQ below (Q_X5_greedyCause D cI m0 m1 m2 m3 m4 m5 m6 m7 m8 m9 m10 m11 mr mc me mw mh mn mu ms mt md mz mi mk mo mj ml a1 A) ([.ref m0, .int a1] : List Value).toArray s 0 0 A) (F0 m 52 ls [.int j7, .int v10_2]) := by
              intro H locs hP hD hS ls hl
              refine lv_iand hx hb dX5_greedyCause_52 ?_
              refine lv_istore_n (lv' := [(2, .int (v10_2 &&& j7)), (3, .int j4), (4, .int v10_4), (0, .ref m0), (1, .int a1)]) hx hb dX5_greedyCause_53 rfl hl (by decide) rfl (fun ls hl => ?_)
              refine lv_iinc (v := (v10_4 + 1)) (lv' := [(4, .int (v10_4 + 1)), (2, .int (v10_2 &&& j7)), (3, .int j4), (0, .ref m0), (1, .int a1)]) hx hb dX5_greedyCause_54 hl (k := 2) rfl rfl (by decide) rfl (fun ls hl => ?_)
              refine lv_goto (tgt := 10) hx hb dX5_greedyCause_57 (by decide) ?_
              exact ih _ _ _ hp he _ _ hP hD hS _ (lv_sub hl [0, 2, 1, 3, 4] rfl)
            replace he := hJ7
            replace hp := hpJ7
            refine lv_if_ge (tgt := 45) hx hb dX5_greedyCause_38 (by decide) (fun c8 => ?_) (fun c8 => ?_)
            · replace hp := hp.1 c8
              replace he := he.trans (if_pos c8)
              refine lv_aload_n hx hb dX5_greedyCause_45 rfl (lv_at hl 3 rfl) ?_
              refine lv_iload_n hx hb dX5_greedyCause_46 rfl (lv_at hl 0 rfl) ?_
              have hq9 := hp.1
              replace hp := hp.2
              refine k_calli (S := Unit) (wc := (W_X5 cI m0 m1 m2 m3 m4 m5 m6 m7 m8 m9 m10 m11 mr mc me mw mh mn mu ms mt md mz mi mk mo mj ml)) (wr := ([] : va_W)) (w1 := fun u => (W_X5 cI m0 m1 m2 m3 m4 m5 m6 m7 m8 m9 m10 m11 mr mc me mw mh mn mu ms mt md mz mi mk mo mj ml)) (fun u => (W_X5 cI m0 m1 m2 m3 m4 m5 m6 m7 m8 m9 m10 m11 mr mc me mw mh mn mu ms mt md mz mi mk mo mj ml)) hP hK hD hN hS hA [0, 1, 2, 3, 4, 5, 6, 7, 8, 9, 10, 11] [] rfl rfl (by decide) (by decide) (by decide) [0, 1, 2, 3, 4, 5, 6, 7, 8, 9, 10, 11] (by decide) (fun _ => rfl) (fun hg => va_runV (As := [.int j4]) (rest := [.int v10_2]) ⟨hx, hb, hml, hown, hts⟩ (c_X5_explains l D cI m0 m1 m2 m3 m4 m5 m6 m7 m8 m9 m10 m11 mr mc me mw mh mn mu ms mt md mz mi mk mo mj ml _ j4 hq9) (cwV 1 hts gX5_greedyCause_X5_explains rfl rfl rfl (by decide +kernel) ⟨Nat.le_of_ble_eq_true rfl, Nat.le_of_ble_eq_true rfl⟩) ⟨PW.blind, va_recv hK hP (ci := 5) (q0 := 0) rfl rfl, fun U hU hW => ⟨rfl, hg U hU hW⟩⟩ rfl rfl hl.1 rfl (lv_room (Nat.le_of_ble_eq_true rfl)) dX5_greedyCause_47 ⟨Nat.le_of_ble_eq_true rfl, Nat.le_of_ble_eq_true rfl⟩) (fun r9 u H locs hw hP hD hS => ?_)
              subst hw
              refine lv_iconst (v := (-1)) hx hb dX5_greedyCause_50 (by decide) ?_
              refine lv_ixor hx hb dX5_greedyCause_51 ?_
              subst he
              exact kont7 _ _ hP hD hS _ (lv_sub hl [0, 1, 3, 4] rfl)
            · replace hp := hp.2 c8
              replace he := he.trans (if_neg c8)
              refine lv_iconst (v := 0) hx hb dX5_greedyCause_41 (by decide) ?_
              refine lv_goto (tgt := 52) hx hb dX5_greedyCause_42 (by decide) ?_
              subst he
              exact kont7 _ _ hP hD hS _ (lv_sub hl [0, 1, 3, 4] rfl)
          replace he := hJ4
          replace hp := hpJ4
          refine lv_if_ne (tgt := 30) hx hb dX5_greedyCause_23 (by decide) (fun c5 => ?_) (fun c5 => ?_)
          · replace hp := hp.2 c5
            replace he := he.trans (if_neg c5)
            refine lv_aload_n hx hb dX5_greedyCause_30 rfl (lv_at hl 3 rfl) ?_
            refine lv_iload_n hx hb dX5_greedyCause_31 rfl (lv_at hl 2 rfl) ?_
            have hq6 := hp.1
            replace hp := hp.2
            refine k_calli (S := Unit) (wc := (W_X5 cI m0 m1 m2 m3 m4 m5 m6 m7 m8 m9 m10 m11 mr mc me mw mh mn mu ms mt md mz mi mk mo mj ml)) (wr := ([] : va_W)) (w1 := fun u => (W_X5 cI m0 m1 m2 m3 m4 m5 m6 m7 m8 m9 m10 m11 mr mc me mw mh mn mu ms mt md mz mi mk mo mj ml)) (fun u => (W_X5 cI m0 m1 m2 m3 m4 m5 m6 m7 m8 m9 m10 m11 mr mc me mw mh mn mu ms mt md mz mi mk mo mj ml)) hP hK hD hN hS hA [0, 1, 2, 3, 4, 5, 6, 7, 8, 9, 10, 11] [] rfl rfl (by decide) (by decide) (by decide) [0, 1, 2, 3, 4, 5, 6, 7, 8, 9, 10, 11] (by decide) (fun _ => rfl) (fun hg => va_runV (As := [.int v10_2]) (rest := []) ⟨hx, hb, hml, hown, hts⟩ (c_X5_joins l D cI m0 m1 m2 m3 m4 m5 m6 m7 m8 m9 m10 m11 mr mc me mw mh mn mu ms mt md mz mi mk mo mj ml _ v10_2 hq6) (cwV 1 hts gX5_greedyCause_X5_joins rfl rfl rfl (by decide +kernel) ⟨Nat.le_of_ble_eq_true rfl, Nat.le_of_ble_eq_true rfl⟩) ⟨PW.blind, va_recv hK hP (ci := 5) (q0 := 0) rfl rfl, fun U hU hW => ⟨rfl, hg U hU hW⟩⟩ rfl rfl hl.1 rfl (lv_room (Nat.le_of_ble_eq_true rfl)) dX5_greedyCause_32 ⟨Nat.le_of_ble_eq_true rfl, Nat.le_of_ble_eq_true rfl⟩) (fun r6 u H locs hw hP hD hS => ?_)
            subst hw
            subst he
            exact kont4 _ _ hP hD hS _ (lv_sub hl [0, 2, 3, 4] rfl)
          · replace hp := hp.1 c5
            replace he := he.trans (if_pos c5)
            refine lv_iconst (v := (-1)) hx hb dX5_greedyCause_26 (by decide) ?_
            refine lv_goto (tgt := 35) hx hb dX5_greedyCause_27 (by decide) ?_
            subst he
            exact kont4 _ _ hP hD hS _ (lv_sub hl [0, 2, 3, 4] rfl)
  exact loop1 16 mr ((-1) : Int32) (0 : Int32) hpL1 hL1 _ _ hP hD hS _ (lv_sub hl [0, 1, 2, 3, 4] rfl)
abbrev rm_X5_causeOf : Room := { frames := 3, cells := 0, slots := 0, locals := 69 }
abbrev Q_X5_causeOf (D : va_G) (cI : ClassId) (m0 m1 m2 m3 m4 m5 m6 m7 m8 m9 m10 m11 : Nat) (mr : Int32) (mc : Int32) (me : Int32) (mw : Int32) (mh : Int32) (mn : AA) (mu : AA) (ms : AA) (mt : AA) (md : AA) (mz : AA) (mi : AA) (mk : AA) (mo : AA) (mj : AA) (ml : AA) (a1 : Int32) (A : Nat → Prop) : Array Value → State → Outcome → State → Prop := va_Qi (S := Int32) (fun r u => f_X5_causeOf mr mn mu a1 = (r, u)) (fun u t => QW D [(cI, .int)] A (W_X5 cI m0 m1 m2 m3 m4 m5 m6 m7 m8 m9 m10 m11 mr mc me mw u mn mu ms mt md mz mi mk mo mj ml) t) A
set_option maxHeartbeats 4000000 in
set_option maxRecDepth 100000 in
theorem c_X5_causeOf (l : Launch)  (D : va_G) (cI : ClassId) (m0 m1 m2 m3 m4 m5 m6 m7 m8 m9 m10 m11 : Nat) (mr : Int32) (mc : Int32) (me : Int32) (mw : Int32) (mh : Int32) (mn : AA) (mu : AA) (ms : AA) (mt : AA) (md : AA) (mz : AA) (mi : AA) (mk : AA) (mo : AA) (mj : AA) (ml : AA) (sz : Nat) (a1 : Int32) (hp : p_X5_causeOf mr mn mu a1) : Met l yX5_causeOf wsX5_causeOf rm_X5_causeOf (va_Pc [.ref m0, .int a1] (PW D [(cI, .int)] sz (W_X5 cI m0 m1 m2 m3 m4 m5 m6 m7 m8 m9 m10 m11 mr mc me mw mh mn mu ms mt md mz mi mk mo mj ml))) (Q_X5_causeOf D cI m0 m1 m2 m3 m4 m5 m6 m7 m8 m9 m10 m11 mr mc me mw mh mn mu ms mt md mz mi mk mo mj ml a1 (va_A (W_X5 cI m0 m1 m2 m3 m4 m5 m6 m7 m8 m9 m10 m11 mr mc me mw mh mn mu ms mt md mz mi mk mo mj ml) sz)) 0 0 (va_A (W_X5 cI m0 m1 m2 m3 m4 m5 m6 m7 m8 m9 m10 m11 mr mc me mw mh mn mu ms mt md mz mi mk mo mj ml) sz) := by
  refine Met.ofW (cc := cX5_causeOf) (maxL := 5) (ret := (some .int)) (by decide) rfl ?_
  intro p e s m args below meth c s₁ B hml hv
  obtain ⟨rfl, hsz, hP, hK, hD0, hN⟩ := hv
  have hx := B.exec
  have hb := B.bytes
  have hr := B.returns
  have hts := atoms_spec (ws := wsX5_causeOf) B.pre
  have hown : s.vm.findClass RX5 = some m.cls := findClass_of_methodNamed B.named
  have hlocks := B.notSynchronized
  subst hsz
  have hD := hD0.self (sz := s.heap.size)
  generalize hAe : va_A (W_X5 cI m0 m1 m2 m3 m4 m5 m6 m7 m8 m9 m10 m11 mr mc me mw mh mn mu ms mt md mz mi mk mo mj ml) s.heap.size = A at hD ⊢
  have hA : ∀ q : Nat, s.heap.size ≤ q → A q := fun q h => by rw [← hAe]; exact Or.inr h
  have hS : va_S A s.heap s.heap [] := va_S.rf
  have hl := lv_entry ([.ref m0, .int a1]) (n := 5) (Nat.le_of_ble_eq_true rfl)
  rw [lg_entry_eq]
  generalize (lg_sl ([.ref m0, .int a1]) ++ List.replicate (5 - (lg_sl ([.ref m0, .int a1])).length) Slot.unset).toArray = ls at hl ⊢
  have hl : lv_has ls 5 [(0, .ref m0), (1, .int a1)] := hl
  have he := f_X5_causeOf.eq_1 mr mn mu a1
  replace hp := Eq.mp (p_X5_causeOf.eq_1 ..) hp
  refine lv_aload_n hx hb dX5_causeOf_0 rfl (lv_at hl 0 rfl) ?_
  refine lv_iload_n hx hb dX5_causeOf_1 rfl (lv_at hl 1 rfl) ?_
  refine k_calli (S := Unit) (wc := ([] : va_W)) (wr := (W_X5 cI m0 m1 m2 m3 m4 m5 m6 m7 m8 m9 m10 m11 mr mc me mw mh mn mu ms mt md mz mi mk mo mj ml)) (w1 := fun u => ([] : va_W)) (fun u => (W_X5 cI m0 m1 m2 m3 m4 m5 m6 m7 m8 m9 m10 m11 mr mc me mw mh mn mu ms mt md mz mi mk mo mj ml)) hP hK hD hN hS hA [] [0, 1, 2, 3, 4, 5, 6, 7, 8, 9, 10, 11] rfl rfl (by decide) (by decide) (by decide) [0, 1, 2, 3, 4, 5, 6, 7, 8, 9, 10, 11] (by decide) (fun _ => rfl) (fun hg => va_runS (As := [.int a1]) (rest := [.ref m0]) ⟨hx, hb, hml, hown, hts⟩ (c_X5_isNode l D cI _ a1) (va_cwS 1 hts gX5_causeOf_X5_isNode rfl rfl rfl (by decide +kernel) ⟨Nat.le_of_ble_eq_true rfl, Nat.le_of_ble_eq_true rfl⟩) ⟨PW.blind, fun U hU hW => ⟨rfl, hg U hU hW⟩⟩ rfl rfl hl.1 rfl (lv_room (Nat.le_of_ble_eq_true rfl)) dX5_causeOf_2 ⟨Nat.le_of_ble_eq_true rfl, Nat.le_of_ble_eq_true rfl⟩) (fun r1 u H locs hw hP hD hS => ?_)
  obtain ⟨hw, hb1⟩ := hw
  subst hw
  refine lv_iconst (v := 1) hx hb dX5_causeOf_5 (by decide) ?_
  refine k_calli (S := Int32) (wc := (W_X5 cI m0 m1 m2 m3 m4 m5 m6 m7 m8 m9 m10 m11 mr mc me mw mh mn mu ms mt md mz mi mk mo mj ml)) (wr := ([] : va_W)) (w1 := fun u => (W_X5 cI m0 m1 m2 m3 m4 m5 m6 m7 m8 m9 m10 m11 mr mc me mw u mn mu ms mt md mz mi mk mo mj ml)) (fun u => (W_X5 cI m0 m1 m2 m3 m4 m5 m6 m7 m8 m9 m10 m11 mr mc me mw u mn mu ms mt md mz mi mk mo mj ml)) hP hK hD hN hS hA [0, 1, 2, 3, 4, 5, 6, 7, 8, 9, 10, 11] [] rfl rfl (by decide) (by decide) (by decide) [0, 1, 2, 3, 4, 5, 6, 7, 8, 9, 10, 11] (by decide) (fun _ => rfl) (fun hg => va_runV (As := [.int (f_X5_isNode a1), .int 1]) (rest := []) ⟨hx, hb, hml, hown, hts⟩ (c_X5_goes l D cI m0 m1 m2 m3 m4 m5 m6 m7 m8 m9 m10 m11 mr mc me mw mh mn mu ms mt md mz mi mk mo mj ml _ (f_X5_isNode a1) 1) (cwV 2 hts gX5_causeOf_X5_goes rfl rfl rfl (by decide +kernel) ⟨Nat.le_of_ble_eq_true rfl, Nat.le_of_ble_eq_true rfl⟩) ⟨PW.blind, va_recv hK hP (ci := 5) (q0 := 0) rfl rfl, fun U hU hW => ⟨rfl, hg U hU hW⟩⟩ rfl rfl hl.1 rfl (lv_room (Nat.le_of_ble_eq_true rfl)) dX5_causeOf_6 ⟨Nat.le_of_ble_eq_true rfl, Nat.le_of_ble_eq_true rfl⟩) (fun r2 u H locs hw hP hD hS => ?_)
  obtain ⟨u2_0, rfl⟩ : ∃ z, z = u := ⟨_, rfl⟩
  obtain ⟨hw, hb2⟩ := hw
  rw [hw] at he
  try dsimp only at he
  replace hp := hp r2 u2_0 hw
  have hP : va_P D vwCl (W_X5 cI m0 m1 m2 m3 m4 m5 m6 m7 m8 m9 m10 m11 mr mc me mw u2_0 mn mu ms mt md mz mi mk mo mj ml) H := hP
  have hD : va_D A (W_X5 cI m0 m1 m2 m3 m4 m5 m6 m7 m8 m9 m10 m11 mr mc me mw u2_0 mn mu ms mt md mz mi mk mo mj ml) := hD
  refine lv_if_ne (tgt := 14) hx hb dX5_causeOf_9 (by decide) (fun c3 => ?_) (fun c3 => ?_)
  · replace hp := hp.2 c3
    replace he := he.trans (if_neg c3)
    refine lv_aload_n hx hb dX5_causeOf_14 rfl (lv_at hl 0 rfl) ?_
    have hq4 := hp.1
    replace hp := hp.2
    refine k_calli (S := Unit) (wc := (W_X5 cI m0 m1 m2 m3 m4 m5 m6 m7 m8 m9 m10 m11 mr mc me mw u2_0 mn mu ms mt md mz mi mk mo mj ml)) (wr := ([] : va_W)) (w1 := fun u => (W_X5 cI m0 m1 m2 m3 m4 m5 m6 m7 m8 m9 m10 m11 mr mc me mw u2_0 mn mu ms mt md mz mi mk mo mj ml)) (fun u => (W_X5 cI m0 m1 m2 m3 m4 m5 m6 m7 m8 m9 m10 m11 mr mc me mw u2_0 mn mu ms mt md mz mi mk mo mj ml)) hP hK hD hN hS hA [0, 1, 2, 3, 4, 5, 6, 7, 8, 9, 10, 11] [] rfl rfl (by decide) (by decide) (by decide) [0, 1, 2, 3, 4, 5, 6, 7, 8, 9, 10, 11] (by decide) (fun _ => rfl) (fun hg => va_runV (As := []) (rest := []) ⟨hx, hb, hml, hown, hts⟩ (c_X5_best l D cI m0 m1 m2 m3 m4 m5 m6 m7 m8 m9 m10 m11 mr mc me mw u2_0 mn mu ms mt md mz mi mk mo mj ml _ hq4) (cwV 0 hts gX5_causeOf_X5_best rfl rfl rfl (by decide +kernel) ⟨Nat.le_of_ble_eq_true rfl, Nat.le_of_ble_eq_true rfl⟩) ⟨PW.blind, va_recv hK hP (ci := 5) (q0 := 0) rfl rfl, fun U hU hW => ⟨rfl, hg U hU hW⟩⟩ rfl rfl hl.1 rfl (lv_room (Nat.le_of_ble_eq_true rfl)) dX5_causeOf_15 ⟨Nat.le_of_ble_eq_true rfl, Nat.le_of_ble_eq_true rfl⟩) (fun r4 u H locs hw hP hD hS => ?_)
    subst hw
    refine lv_istore_n (lv' := [(2, .int (f_X5_best mr mn mu)), (0, .ref m0), (1, .int a1)]) hx hb dX5_causeOf_18 rfl hl (by decide) rfl (fun ls hl => ?_)
    refine lv_iconst (v := (-1)) hx hb dX5_causeOf_19 (by decide) ?_
    refine lv_istore_n (lv' := [(3, .int (-1)), (2, .int (f_X5_best mr mn mu)), (0, .ref m0), (1, .int a1)]) hx hb dX5_causeOf_20 rfl hl (by decide) rfl (fun ls hl => ?_)
    refine lv_bipush (v := 13) hx hb dX5_causeOf_21 (by decide) ?_
    refine lv_istore (lv' := [(4, .int 13), (3, .int (-1)), (2, .int (f_X5_best mr mn mu)), (0, .ref m0), (1, .int a1)]) hx hb dX5_causeOf_23 hl (by decide) rfl (fun ls hl => ?_)
    obtain ⟨⟨r5_v25_3, r5_v25_4⟩, hL5⟩ : ∃ z, z = f_X5_causeOf_L25 mr mn mu a1 15 ((-1) : Int32) (13 : Int32) := ⟨_, rfl⟩
    rw [← hL5] at he
    try dsimp only at he
    have hpL5 := hp.1
    replace hp := hp.2 _ _ hL5.symm
    have kont5 : ∀ (x5_v25_3 : Int32) (x5_v25_4 : Int32), (r5_v25_3, r5_v25_4) = (x5_v25_3, x5_v25_4) → ∀ (H : Heap) (locs : List Loc), va_P D vwCl (W_X5 cI m0 m1 m2 m3 m4 m5 m6 m7 m8 m9 m10 m11 mr mc me mw u2_0 mn mu ms mt md mz mi mk mo mj ml) H → va_D A (W_X5 cI m0 m1 m2 m3 m4 m5 m6 m7 m8 m9 m10 m11 mr mc me mw u2_0 mn mu ms mt md mz mi mk mo mj ml) → va_S A s.heap H locs → ∀ ls : Array Slot, lv_has ls 5 [(3, .int x5_v25_3), (0, .ref m0), (1, .int a1)] → W p l e (headSpec wsX5_causeOf rm_X5_causeOf).room s m ([.ref m0, .int a1] : List Value).toArray below meth c H locs 0 0 (MQ below (Q_X5_causeOf D cI m0 m1 m2 m3 m4 m5 m6 m7 m8 m9 m10 m11 mr mc me mw mh mn mu ms mt md mz mi mk mo mj ml a1 A) ([.ref m0, .int a1] : List Value).toArray s 0 0 A) (F0 m 65 ls []) := by
      intro x5_v25_3 x5_v25_4 hxe H locs hP hD hS ls hl
      simp only [Prod.mk.injEq] at hxe
      obtain ⟨rfl, rfl⟩ := hxe
      refine lv_aload_n hx hb dX5_causeOf_65 rfl (lv_at hl 1 rfl) ?_
      refine va_get (D := D) (ci := 5) (v := .int mr) (C := RX5) (T := TX5) (N := 16) hx hb hts (by decide +kernel) hown hK hP 0 rfl rfl 2 (by decide) (hts (.fieldLink RX5 68 "AlarmgroveModel" "raised" "I") (by decide +kernel)) (fun _ h9 => h9) rfl dX5_causeOf_66 ?_
      refine lv_iload_n hx hb dX5_causeOf_69 rfl (lv_at hl 2 rfl) ?_
      refine k_calli (S := Unit) (wc := ([] : va_W)) (wr := (W_X5 cI m0 m1 m2 m3 m4 m5 m6 m7 m8 m9 m10 m11 mr mc me mw u2_0 mn mu ms mt md mz mi mk mo mj ml)) (w1 := fun u => ([] : va_W)) (fun u => (W_X5 cI m0 m1 m2 m3 m4 m5 m6 m7 m8 m9 m10 m11 mr mc me mw u2_0 mn mu ms mt md mz mi mk mo mj ml)) hP hK hD hN hS hA [] [0, 1, 2, 3, 4, 5, 6, 7, 8, 9, 10, 11] rfl rfl (by decide) (by decide) (by decide) [0, 1, 2, 3, 4, 5, 6, 7, 8, 9, 10, 11] (by decide) (fun _ => rfl) (fun hg => va_runS (As := [.int mr, .int a1]) (rest := []) ⟨hx, hb, hml, hown, hts⟩ (c_X5_has l D cI _ mr a1) (va_cwS 2 hts gX5_causeOf_X5_has rfl rfl rfl (by decide +kernel) ⟨Nat.le_of_ble_eq_true rfl, Nat.le_of_ble_eq_true rfl⟩) ⟨PW.blind, fun U hU hW => ⟨rfl, hg U hU hW⟩⟩ rfl rfl hl.1 rfl (lv_room (Nat.le_of_ble_eq_true rfl)) dX5_causeOf_70 ⟨Nat.le_of_ble_eq_true rfl, Nat.le_of_ble_eq_true rfl⟩) (fun r13 u H locs hw hP hD hS => ?_)
      obtain ⟨hw, hb13⟩ := hw
      subst hw
      obtain ⟨j14, hJ14⟩ : ∃ z : Int32, z = (if (f_X5_has mr a1) = 0 then ((-1) : Int32) else r5_v25_3) := ⟨_, rfl⟩
      rw [← hJ14] at he
      try dsimp only at he
      have hpJ14 := hp.1
      replace hp := hp.2 _  hJ14.symm
      have kont14 : ∀ (H : Heap) (locs : List Loc), va_P D vwCl (W_X5 cI m0 m1 m2 m3 m4 m5 m6 m7 m8 m9 m10 m11 mr mc me mw u2_0 mn mu ms mt md mz mi mk mo mj ml) H → va_D A (W_X5 cI m0 m1 m2 m3 m4 m5 m6 m7 m8 m9 m10 m11 mr mc me mw u2_0 mn mu ms mt md mz mi mk mo mj ml) → va_S A s.heap H locs → ∀ ls : Array Slot, lv_has ls 5 [] → W p l e (headSpec wsX5_causeOf rm_X5_causeOf).room s m ([.ref m0, .int a1] : List Value).toArray below meth c H locs 0 0 (MQ below (Q_X5_causeOf D cI m0 m1 m2 m3 m4 m5 m6 m7 m8 m9 m10 m11 mr mc me mw mh mn mu ms mt md mz mi mk mo mj ml a1 A) ([.ref m0, .int a1] : List Value).toArray s 0 0 A) (F0 m 81 ls [.int j14]) := by
        intro H locs hP hD hS ls hl
        exact W.iret (v := j14) hx hb hr (fun t ht hW => ⟨⟨j14, u2_0, rfl, he, by rw [ht]; exact hP, va_K.moved hW.alike hK, hD⟩, hS.F ht⟩) hS.2.2 dX5_causeOf_81
      replace he := hJ14
      replace hp := hpJ14
      refine lv_if_eq (tgt := 80) hx hb dX5_causeOf_73 (by decide) (fun c15 => ?_) (fun c15 => ?_)
      · replace hp := hp.1 c15
        replace he := he.trans (if_pos c15)
        refine lv_iconst (v := (-1)) hx hb dX5_causeOf_80 (by decide) ?_
        subst he
        exact kont14 _ _ hP hD hS _ (lv_sub hl [] rfl)
      · replace hp := hp.2 c15
        replace he := he.trans (if_neg c15)
        refine lv_iload_n hx hb dX5_causeOf_76 rfl (lv_at hl 0 rfl) ?_
        refine lv_goto (tgt := 81) hx hb dX5_causeOf_77 (by decide) ?_
        subst he
        exact kont14 _ _ hP hD hS _ (lv_sub hl [] rfl)
    have loop5 : ∀ (n : Nat) (v25_3 : Int32) (v25_4 : Int32), p_X5_causeOf_L25 mr mn mu a1 n v25_3 v25_4 → (r5_v25_3, r5_v25_4) = f_X5_causeOf_L25 mr mn mu a1 n v25_3 v25_4 → ∀ (H : Heap) (locs : List Loc), va_P D vwCl (W_X5 cI m0 m1 m2 m3 m4 m5 m6 m7 m8 m9 m10 m11 mr mc me mw u2_0 mn mu ms mt md mz mi mk mo mj ml) H → va_D A (W_X5 cI m0 m1 m2 m3 m4 m5 m6 m7 m8 m9 m10 m11 mr mc me mw u2_0 mn mu ms mt md mz mi mk mo mj ml) → va_S A s.heap H locs → ∀ ls : Array Slot, lv_has ls 5 [(4, .int v25_4), (3, .int v25_3), (2, .int (f_X5_best mr mn mu)), (0, .ref m0), (1, .int a1)] → W p l e (headSpec wsX5_causeOf rm_X5_causeOf).room s m ([.ref m0, .int a1] : List Value).toArray below meth c H locs 0 0 (MQ below (Q_X5_causeOf D cI m0 m1 m2 m3 m4 m5 m6 m7 m8 m9 m10 m11 mr mc me mw mh mn mu ms mt md mz mi mk mo mj ml a1 A) ([.ref m0, .int a1] : List Value).toArray s 0 0 A) (F0 m 25 ls []) := by
      intro n
      induction n with
      | zero => exact fun _ _ hp => hp.elim
      | succ n ih =>
        intro v25_3 v25_4 hp he H locs hP hD hS ls hl
        replace hp := Eq.mp (p_X5_causeOf_L25.eq_2 ..) hp
        replace he := he.trans (f_X5_causeOf_L25.eq_2 ..)
        refine lv_iload hx hb dX5_causeOf_25 (lv_at hl 0 rfl) ?_
        refine lv_if_lt (tgt := 65) hx hb dX5_causeOf_27 (by decide) (fun c6 => ?_) (fun c6 => ?_)
        · replace hp := hp.1 c6
          replace he := he.trans (if_pos c6)
          exact kont5 _ _ he _ _ hP hD hS _ (lv_sub hl [1, 3, 4] rfl)
        · replace hp := hp.2 c6
          replace he := he.trans (if_neg c6)
          refine lv_iload_n hx hb dX5_causeOf_30 rfl (lv_at hl 2 rfl) ?_
          refine lv_iload hx hb dX5_causeOf_31 (lv_at hl 0 rfl) ?_
          refine k_calli (S := Unit) (wc := ([] : va_W)) (wr := (W_X5 cI m0 m1 m2 m3 m4 m5 m6 m7 m8 m9 m10 m11 mr mc me mw u2_0 mn mu ms mt md mz mi mk mo mj ml)) (w1 := fun u => ([] : va_W)) (fun u => (W_X5 cI m0 m1 m2 m3 m4 m5 m6 m7 m8 m9 m10 m11 mr mc me mw u2_0 mn mu ms mt md mz mi mk mo mj ml)) hP hK hD hN hS hA [] [0, 1, 2, 3, 4, 5, 6, 7, 8, 9, 10, 11] rfl rfl (by decide) (by decide) (by decide) [0, 1, 2, 3, 4, 5, 6, 7, 8, 9, 10, 11] (by decide) (fun _ => rfl) (fun hg => va_runS (As := [.int (f_X5_best mr mn mu), .int v25_4]) (rest := []) ⟨hx, hb, hml, hown, hts⟩ (c_X5_has l D cI _ (f_X5_best mr mn mu) v25_4) (va_cwS 2 hts gX5_causeOf_X5_has rfl rfl rfl (by decide +kernel) ⟨Nat.le_of_ble_eq_true rfl, Nat.le_of_ble_eq_true rfl⟩) ⟨PW.blind, fun U hU hW => ⟨rfl, hg U hU hW⟩⟩ rfl rfl hl.1 rfl (lv_room (Nat.le_of_ble_eq_true rfl)) dX5_causeOf_33 ⟨Nat.le_of_ble_eq_true rfl, Nat.le_of_ble_eq_true rfl⟩) (fun r7 u H locs hw hP hD hS => ?_)
          obtain ⟨hw, hb7⟩ := hw
          subst hw
          obtain ⟨j8, hJ8⟩ : ∃ z : Int32, z = (if (f_X5_has (f_X5_best mr mn mu) v25_4) = 0 then v25_3 else (if (f_X5_has (f_X5_explains mu v25_4) a1) = 0 then v25_3 else v25_4)) := ⟨_, rfl⟩
          rw [← hJ8] at he
          try dsimp only at he
          have hpJ8 := hp.1
          replace hp := hp.2 _  hJ8.symm
          have kont8 : ∀ (H : Heap) (locs : List Loc), va_P D vwCl (W_X5 cI m0 m1 m2 m3 m4 m5 m6 m7 m8 m9 m10 m11 mr mc me mw u2_0 mn mu ms mt md mz mi mk mo mj ml) H → va_D A (W_X5 cI m0 m1 m2 m3 m4 m5 m6 m7 m8 m9 m10 m11 mr mc me mw u2_0 mn mu ms mt md mz mi mk mo mj ml) → va_S A s.heap H locs → ∀ ls : Array Slot, lv_has ls 5 [(4, .int v25_4), (2, .int (f_X5_best mr mn mu)), (0, .ref m0), (1, .int a1)] → W p l e (headSpec wsX5_causeOf rm_X5_causeOf).room s m ([.ref m0, .int a1] : List Value).toArray below meth c H locs 0 0 (MQ below (Q_X5_causeOf D cI m0 m1 m2 m3 m4 m5 m6 m7 m8 m9 m10 m11 mr mc me mw mh mn mu ms mt md mz mi mk mo mj ml a1 A) ([.ref m0, .int a1] : List Value).toArray s 0 0 A) (F0 m 58 ls [.int j8]) := by
            intro H locs hP hD hS ls hl
            refine lv_istore_n (lv' := [(3, .int j8), (4, .int v25_4), (2, .int (f_X5_best mr mn mu)), (0, .ref m0), (1, .int a1)]) hx hb dX5_causeOf_58 rfl hl (by decide) rfl (fun ls hl => ?_)
            refine lv_iinc (v := (v25_4 + (-1))) (lv' := [(4, .int (v25_4 + (-1))), (3, .int j8), (2, .int (f_X5_best mr mn mu)), (0, .ref m0), (1, .int a1)]) hx hb dX5_causeOf_59 hl (k := 1) rfl rfl (by decide) rfl (fun ls hl => ?_)
            refine lv_goto (tgt := 25) hx hb dX5_causeOf_62 (by decide) ?_
            exact ih _ _ hp he _ _ hP hD hS _ (lv_sub hl [0, 1, 2, 3, 4] rfl)
          replace he := hJ8
          replace hp := hpJ8
          refine lv_if_eq (tgt := 57) hx hb dX5_causeOf_36 (by decide) (fun c9 => ?_) (fun c9 => ?_)
          · replace hp := hp.1 c9
            replace he := he.trans (if_pos c9)
            refine lv_iload_n hx hb dX5_causeOf_57 rfl (lv_at hl 1 rfl) ?_
            subst he
            exact kont8 _ _ hP hD hS _ (lv_sub hl [0, 2, 3, 4] rfl)
          · replace hp := hp.2 c9
            replace he := he.trans (if_neg c9)
            refine lv_aload_n hx hb dX5_causeOf_39 rfl (lv_at hl 3 rfl) ?_
            refine lv_iload hx hb dX5_causeOf_40 (lv_at hl 0 rfl) ?_
            have hq10 := hp.1
            replace hp := hp.2
            refine k_calli (S := Unit) (wc := (W_X5 cI m0 m1 m2 m3 m4 m5 m6 m7 m8 m9 m10 m11 mr mc me mw u2_0 mn mu ms mt md mz mi mk mo mj ml)) (wr := ([] : va_W)) (w1 := fun u => (W_X5 cI m0 m1 m2 m3 m4 m5 m6 m7 m8 m9 m10 m11 mr mc me mw u2_0 mn mu ms mt md mz mi mk mo mj ml)) (fun u => (W_X5 cI m0 m1 m2 m3 m4 m5 m6 m7 m8 m9 m10 m11 mr mc me mw u2_0 mn mu ms mt md mz mi mk mo mj ml)) hP hK hD hN hS hA [0, 1, 2, 3, 4, 5, 6, 7, 8, 9, 10, 11] [] rfl rfl (by decide) (by decide) (by decide) [0, 1, 2, 3, 4, 5, 6, 7, 8, 9, 10, 11] (by decide) (fun _ => rfl) (fun hg => va_runV (As := [.int v25_4]) (rest := []) ⟨hx, hb, hml, hown, hts⟩ (c_X5_explains l D cI m0 m1 m2 m3 m4 m5 m6 m7 m8 m9 m10 m11 mr mc me mw u2_0 mn mu ms mt md mz mi mk mo mj ml _ v25_4 hq10) (cwV 1 hts gX5_causeOf_X5_explains rfl rfl rfl (by decide +kernel) ⟨Nat.le_of_ble_eq_true rfl, Nat.le_of_ble_eq_true rfl⟩) ⟨PW.blind, va_recv hK hP (ci := 5) (q0 := 0) rfl rfl, fun U hU hW => ⟨rfl, hg U hU hW⟩⟩ rfl rfl hl.1 rfl (lv_room (Nat.le_of_ble_eq_true rfl)) dX5_causeOf_42 ⟨Nat.le_of_ble_eq_true rfl, Nat.le_of_ble_eq_true rfl⟩) (fun r10 u H locs hw hP hD hS => ?_)
            subst hw
            refine lv_iload_n hx hb dX5_causeOf_45 rfl (lv_at hl 4 rfl) ?_
            refine k_calli (S := Unit) (wc := ([] : va_W)) (wr := (W_X5 cI m0 m1 m2 m3 m4 m5 m6 m7 m8 m9 m10 m11 mr mc me mw u2_0 mn mu ms mt md mz mi mk mo mj ml)) (w1 := fun u => ([] : va_W)) (fun u => (W_X5 cI m0 m1 m2 m3 m4 m5 m6 m7 m8 m9 m10 m11 mr mc me mw u2_0 mn mu ms mt md mz mi mk mo mj ml)) hP hK hD hN hS hA [] [0, 1, 2, 3, 4, 5, 6, 7, 8, 9, 10, 11] rfl rfl (by decide) (by decide) (by decide) [0, 1, 2, 3, 4, 5, 6, 7, 8, 9, 10, 11] (by decide) (fun _ => rfl) (fun hg => va_runS (As := [.int (f_X5_explains mu v25_4), .int a1]) (rest := []) ⟨hx, hb, hml, hown, hts⟩ (c_X5_has l D cI _ (f_X5_explains mu v25_4) a1) (va_cwS 2 hts gX5_causeOf_X5_has rfl rfl rfl (by decide +kernel) ⟨Nat.le_of_ble_eq_true rfl, Nat.le_of_ble_eq_true rfl⟩) ⟨PW.blind, fun U hU hW => ⟨rfl, hg U hU hW⟩⟩ rfl rfl hl.1 rfl (lv_room (Nat.le_of_ble_eq_true rfl)) dX5_causeOf_46 ⟨Nat.le_of_ble_eq_true rfl, Nat.le_of_ble_eq_true rfl⟩) (fun r11 u H locs hw hP hD hS => ?_)
            obtain ⟨hw, hb11⟩ := hw
            subst hw
            refine lv_if_eq (tgt := 57) hx hb dX5_causeOf_49 (by decide) (fun c12 => ?_) (fun c12 => ?_)
            · replace hp := hp.1 c12
              replace he := he.trans (if_pos c12)
              refine lv_iload_n hx hb dX5_causeOf_57 rfl (lv_at hl 1 rfl) ?_
              subst he
              exact kont8 _ _ hP hD hS _ (lv_sub hl [0, 2, 3, 4] rfl)
            · replace hp := hp.2 c12
              replace he := he.trans (if_neg c12)
              refine lv_iload hx hb dX5_causeOf_52 (lv_at hl 0 rfl) ?_
              refine lv_goto (tgt := 58) hx hb dX5_causeOf_54 (by decide) ?_
              subst he
              exact kont8 _ _ hP hD hS _ (lv_sub hl [0, 2, 3, 4] rfl)
    exact loop5 15 ((-1) : Int32) (13 : Int32) hpL5 hL5 _ _ hP hD hS _ (lv_sub hl [0, 1, 2, 3, 4] rfl)
  · replace hp := hp.1 c3
    replace he := he.trans (if_pos c3)
    refine lv_iconst (v := 0) hx hb dX5_causeOf_12 (by decide) ?_
    exact W.iret (v := 0) hx hb hr (fun t ht hW => ⟨⟨0, u2_0, rfl, he, by rw [ht]; exact hP, va_K.moved hW.alike hK, hD⟩, hS.F ht⟩) hS.2.2 dX5_causeOf_13
