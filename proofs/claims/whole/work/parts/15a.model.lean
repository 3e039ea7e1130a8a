abbrev rm_X5_init : Room := { frames := 1, cells := 11, slots := 2162, locals := 12 }
abbrev Q_X5_init (D : va_G) (cI : ClassId) (m0 : Nat) (A : Nat → Prop) : Array Value → State → Outcome → State → Prop := va_Qv (S := (AA × AA × AA × AA × AA × AA × AA × AA × AA × AA × AA) × (Nat × Nat × Nat × Nat × Nat × Nat × Nat × Nat × Nat × Nat × Nat)) (fun u => f_X5_init = u.1) (fun u t => QW D [(cI, .int)] A (W_X5 cI m0 u.2.1 u.2.2.1 u.2.2.2.1 u.2.2.2.2.1 u.2.2.2.2.2.1 u.2.2.2.2.2.2.1 u.2.2.2.2.2.2.2.1 u.2.2.2.2.2.2.2.2.1 u.2.2.2.2.2.2.2.2.2.1 u.2.2.2.2.2.2.2.2.2.2.1 u.2.2.2.2.2.2.2.2.2.2.2 0 0 0 0 0 u.1.1 u.1.2.1 u.1.2.2.1 u.1.2.2.2.1 u.1.2.2.2.2.1 u.1.2.2.2.2.2.1 u.1.2.2.2.2.2.2.1 u.1.2.2.2.2.2.2.2.1 u.1.2.2.2.2.2.2.2.2.1 u.1.2.2.2.2.2.2.2.2.2.1 u.1.2.2.2.2.2.2.2.2.2.2) t) A
set_option maxHeartbeats 4000000 in
set_option maxRecDepth 100000 in
theorem c_X5_init (l : Launch)  (D : va_G) (cI : ClassId) (m0 : Nat) (sz : Nat) : Met l yX5_init wsX5_init rm_X5_init (va_Pc [.ref m0] (PW D [(cI, .int)] sz [(m0, .inr (5, [.null, .null, .int 0, .null, .null, .null, .null, .null, .int 0, .null, .null, .null, .null, .int 0, .int 0, .int 0]))])) (Q_X5_init D cI m0 (va_A [(m0, .inr (5, [.null, .null, .int 0, .null, .null, .null, .null, .null, .int 0, .null, .null, .null, .null, .int 0, .int 0, .int 0]))] sz)) 11 2162 (va_A [(m0, .inr (5, [.null, .null, .int 0, .null, .null, .null, .null, .null, .int 0, .null, .null, .null, .null, .int 0, .int 0, .int 0]))] sz) := by
  refine Met.ofW (cc := cX5_init) (maxL := 1) (ret := none) (by decide) rfl ?_
  intro p e s m args below meth c s₁ B hml hv
  obtain ⟨rfl, hsz, hP, hK, hD0, hN⟩ := hv
  have hx := B.exec
  have hb := B.bytes
  have hr := B.returns
  have hts := atoms_spec (ws := wsX5_init) B.pre
  have hown : s.vm.findClass RX5 = some m.cls := findClass_of_methodNamed B.named
  have hlocks := B.notSynchronized
  have hin : meth.name = "<init>" := (name_of_methodNamed B.named B.method).1
  subst hsz
  have hD := hD0.self (sz := s.heap.size)
  generalize hAe : va_A [(m0, .inr (5, [.null, .null, .int 0, .null, .null, .null, .null, .null, .int 0, .null, .null, .null, .null, .int 0, .int 0, .int 0]))] s.heap.size = A at hD ⊢
  have hA : ∀ q : Nat, s.heap.size ≤ q → A q := fun q h => by rw [← hAe]; exact Or.inr h
  have hS : va_S A s.heap s.heap [] := va_S.rf
  have hl := lv_entry ([.ref m0]) (n := 1) (Nat.le_of_ble_eq_true rfl)
  rw [lg_entry_eq]
  generalize (lg_sl ([.ref m0]) ++ List.replicate (1 - (lg_sl ([.ref m0])).length) Slot.unset).toArray = ls at hl ⊢
  have hl : lv_has ls 1 [(0, .ref m0)] := hl
  have he := f_X5_init.eq_1
  refine lv_aload_n hx hb dX5_init_0 rfl (lv_at hl 0 rfl) ?_
  refine W.objInit hx hb hown (hts (.methodLink RX5 1 objectInit) (by decide +kernel)) (hts (.instanceMethod objectInit) (by decide +kernel)) (hts (.code objectInit ⟨#[0xb1]⟩ 1 none) (by decide +kernel)) rfl (by rw [hml]; exact hl.1) rfl dX5_init_1 (Nat.le_of_ble_eq_true rfl) (Nat.le_of_ble_eq_true rfl) ?_
  refine W.eq (g2 := F0 m 4 ls []) rfl ?_
  refine lv_aload_n hx hb dX5_init_4 rfl (lv_at hl 0 rfl) ?_
  refine lv_bipush (v := 14) hx hb dX5_init_5 (by decide) ?_
  refine k_newI (N' := 14) hx hb (hts (.arrayClass .int) (by decide +kernel)) hK hP hD hS hA (by decide) (by decide) (by decide) (Nat.le_of_ble_eq_true rfl) (Nat.le_of_ble_eq_true rfl) dX5_init_7 (fun q7 H hP hD hS => ?_)
  have hP : va_P D vwCl ([(m0, .inr (5, [.null, .null, .int 0, .null, .null, .null, .null, .null, .int 0, .null, .null, .null, .null, .int 0, .int 0, .int 0]))] ++ (W_A cI q7 (fun _ => 0))) H := hP
  have hD : va_D A ([(m0, .inr (5, [.null, .null, .int 0, .null, .null, .null, .null, .null, .int 0, .null, .null, .null, .null, .int 0, .int 0, .int 0]))] ++ (W_A cI q7 (fun _ => 0))) := hD
  refine va_putF (D := D) (ci := 5) (v := .ref q7) (ty := (.array .int)) (C := RX5) (T := TX5) (N := 16) hx hb hts (by decide +kernel) tyX5 tyX5_ok nmX5 hown hK hP hD hS 0 rfl rfl 0 (by decide) (hts (.fieldLink RX5 7 "AlarmgroveModel" "needs" "[I") (by decide +kernel)) (fun _ h9 => h9) rfl hin rfl (by decide +kernel) rfl rfl (Nat.le_of_ble_eq_true rfl) dX5_init_9 (fun H locs hP hD hS => ?_)
  have hP : va_P D vwCl ([(m0, .inr (5, [.ref q7, .null, .int 0, .null, .null, .null, .null, .null, .int 0, .null, .null, .null, .null, .int 0, .int 0, .int 0]))] ++ (W_A cI q7 (fun _ => 0))) H := hP
  have hD : va_D A ([(m0, .inr (5, [.ref q7, .null, .int 0, .null, .null, .null, .null, .null, .int 0, .null, .null, .null, .null, .int 0, .int 0, .int 0]))] ++ (W_A cI q7 (fun _ => 0))) := hD
  refine lv_aload_n hx hb dX5_init_12 rfl (lv_at hl 0 rfl) ?_
  refine lv_bipush (v := 14) hx hb dX5_init_13 (by decide) ?_
  refine k_newI (N' := 14) hx hb (hts (.arrayClass .int) (by decide +kernel)) hK hP hD hS hA (by decide) (by decide) (by decide) (Nat.le_of_ble_eq_true rfl) (Nat.le_of_ble_eq_true rfl) dX5_init_15 (fun q15 H hP hD hS => ?_)
  have hP : va_P D vwCl ([(m0, .inr (5, [.ref q7, .null, .int 0, .null, .null, .null, .null, .null, .int 0, .null, .null, .null, .null, .int 0, .int 0, .int 0]))] ++ (W_A cI q7 (fun _ => 0)) ++ (W_A cI q15 (fun _ => 0))) H := hP
  have hD : va_D A ([(m0, .inr (5, [.ref q7, .null, .int 0, .null, .null, .null, .null, .null, .int 0, .null, .null, .null, .null, .int 0, .int 0, .int 0]))] ++ (W_A cI q7 (fun _ => 0)) ++ (W_A cI q15 (fun _ => 0))) := hD
  refine va_putF (D := D) (ci := 5) (v := .ref q15) (ty := (.array .int)) (C := RX5) (T := TX5) (N := 16) hx hb hts (by decide +kernel) tyX5 tyX5_ok nmX5 hown hK hP hD hS 0 rfl rfl 1 (by decide) (hts (.fieldLink RX5 13 "AlarmgroveModel" "under" "[I") (by decide +kernel)) (fun _ h9 => h9) rfl hin rfl (by decide +kernel) rfl rfl (Nat.le_of_ble_eq_true rfl) dX5_init_17 (fun H locs hP hD hS => ?_)
  have hP : va_P D vwCl ([(m0, .inr (5, [.ref q7, .ref q15, .int 0, .null, .null, .null, .null, .null, .int 0, .null, .null, .null, .null, .int 0, .int 0, .int 0]))] ++ (W_A cI q7 (fun _ => 0)) ++ (W_A cI q15 (fun _ => 0))) H := hP
  have hD : va_D A ([(m0, .inr (5, [.ref q7, .ref q15, .int 0, .null, .null, .null, .null, .null, .int 0, .null, .null, .null, .null, .int 0, .int 0, .int 0]))] ++ (W_A cI q7 (fun _ => 0)) ++ (W_A cI q15 (fun _ => 0))) := hD
  refine lv_aload_n hx hb dX5_init_20 rfl (lv_at hl 0 rfl) ?_
  refine lv_bipush (v := 14) hx hb dX5_init_21 (by decide) ?_
  refine k_newI (N' := 14) hx hb (hts (.arrayClass .int) (by decide +kernel)) hK hP hD hS hA (by decide) (by decide) (by decide) (Nat.le_of_ble_eq_true rfl) (Nat.le_of_ble_eq_true rfl) dX5_init_23 (fun q23 H hP hD hS => ?_)
  have hP : va_P D vwCl ([(m0, .inr (5, [.ref q7, .ref q15, .int 0, .null, .null, .null, .null, .null, .int 0, .null, .null, .null, .null, .int 0, .int 0, .int 0]))] ++ (W_A cI q7 (fun _ => 0)) ++ (W_A cI q15 (fun _ => 0)) ++ (W_A cI q23 (fun _ => 0))) H := hP
  have hD : va_D A ([(m0, .inr (5, [.ref q7, .ref q15, .int 0, .null, .null, .null, .null, .null, .int 0, .null, .null, .null, .null, .int 0, .int 0, .int 0]))] ++ (W_A cI q7 (fun _ => 0)) ++ (W_A cI q15 (fun _ => 0)) ++ (W_A cI q23 (fun _ => 0))) := hD
  refine va_putF (D := D) (ci := 5) (v := .ref q23) (ty := (.array .int)) (C := RX5) (T := TX5) (N := 16) hx hb hts (by decide +kernel) tyX5 tyX5_ok nmX5 hown hK hP hD hS 0 rfl rfl 3 (by decide) (hts (.fieldLink RX5 16 "AlarmgroveModel" "since" "[I") (by decide +kernel)) (fun _ h9 => h9) rfl hin rfl (by decide +kernel) rfl rfl (Nat.le_of_ble_eq_true rfl) dX5_init_25 (fun H locs hP hD hS => ?_)
  have hP : va_P D vwCl ([(m0, .inr (5, [.ref q7, .ref q15, .int 0, .ref q23, .null, .null, .null, .null, .int 0, .null, .null, .null, .null, .int 0, .int 0, .int 0]))] ++ (W_A cI q7 (fun _ => 0)) ++ (W_A cI q15 (fun _ => 0)) ++ (W_A cI q23 (fun _ => 0))) H := hP
  have hD : va_D A ([(m0, .inr (5, [.ref q7, .ref q15, .int 0, .ref q23, .null, .null, .null, .null, .int 0, .null, .null, .null, .null, .int 0, .int 0, .int 0]))] ++ (W_A cI q7 (fun _ => 0)) ++ (W_A cI q15 (fun _ => 0)) ++ (W_A cI q23 (fun _ => 0))) := hD
  refine lv_aload_n hx hb dX5_init_28 rfl (lv_at hl 0 rfl) ?_
  refine lv_bipush (v := 14) hx hb dX5_init_29 (by decide) ?_
  refine k_newI (N' := 14) hx hb (hts (.arrayClass .int) (by decide +kernel)) hK hP hD hS hA (by decide) (by decide) (by decide) (Nat.le_of_ble_eq_true rfl) (Nat.le_of_ble_eq_true rfl) dX5_init_31 (fun q31 H hP hD hS => ?_)
  have hP : va_P D vwCl ([(m0, .inr (5, [.ref q7, .ref q15, .int 0, .ref q23, .null, .null, .null, .null, .int 0, .null, .null, .null, .null, .int 0, .int 0, .int 0]))] ++ (W_A cI q7 (fun _ => 0)) ++ (W_A cI q15 (fun _ => 0)) ++ (W_A cI q23 (fun _ => 0)) ++ (W_A cI q31 (fun _ => 0))) H := hP
  have hD : va_D A ([(m0, .inr (5, [.ref q7, .ref q15, .int 0, .ref q23, .null, .null, .null, .null, .int 0, .null, .null, .null, .null, .int 0, .int 0, .int 0]))] ++ (W_A cI q7 (fun _ => 0)) ++ (W_A cI q15 (fun _ => 0)) ++ (W_A cI q23 (fun _ => 0)) ++ (W_A cI q31 (fun _ => 0))) := hD
  refine va_putF (D := D) (ci := 5) (v := .ref q31) (ty := (.array .int)) (C := RX5) (T := TX5) (N := 16) hx hb hts (by decide +kernel) tyX5 tyX5_ok nmX5 hown hK hP hD hS 0 rfl rfl 4 (by decide) (hts (.fieldLink RX5 19 "AlarmgroveModel" "ticket" "[I") (by decide +kernel)) (fun _ h9 => h9) rfl hin rfl (by decide +kernel) rfl rfl (Nat.le_of_ble_eq_true rfl) dX5_init_33 (fun H locs hP hD hS => ?_)
  have hP : va_P D vwCl ([(m0, .inr (5, [.ref q7, .ref q15, .int 0, .ref q23, .ref q31, .null, .null, .null, .int 0, .null, .null, .null, .null, .int 0, .int 0, .int 0]))] ++ (W_A cI q7 (fun _ => 0)) ++ (W_A cI q15 (fun _ => 0)) ++ (W_A cI q23 (fun _ => 0)) ++ (W_A cI q31 (fun _ => 0))) H := hP
  have hD : va_D A ([(m0, .inr (5, [.ref q7, .ref q15, .int 0, .ref q23, .ref q31, .null, .null, .null, .int 0, .null, .null, .null, .null, .int 0, .int 0, .int 0]))] ++ (W_A cI q7 (fun _ => 0)) ++ (W_A cI q15 (fun _ => 0)) ++ (W_A cI q23 (fun _ => 0)) ++ (W_A cI q31 (fun _ => 0))) := hD
  refine lv_aload_n hx hb dX5_init_36 rfl (lv_at hl 0 rfl) ?_
  refine lv_sipush (v := 302) hx hb dX5_init_37 (by decide) ?_
  refine k_newI (N' := 302) hx hb (hts (.arrayClass .int) (by decide +kernel)) hK hP hD hS hA (by decide) (by decide) (by decide) (Nat.le_of_ble_eq_true rfl) (Nat.le_of_ble_eq_true rfl) dX5_init_40 (fun q40 H hP hD hS => ?_)
  have hP : va_P D vwCl ([(m0, .inr (5, [.ref q7, .ref q15, .int 0, .ref q23, .ref q31, .null, .null, .null, .int 0, .null, .null, .null, .null, .int 0, .int 0, .int 0]))] ++ (W_A cI q7 (fun _ => 0)) ++ (W_A cI q15 (fun _ => 0)) ++ (W_A cI q23 (fun _ => 0)) ++ (W_A cI q31 (fun _ => 0)) ++ [(q40, .inl (cI, 302, .inl (fun _ => 0)))]) H := hP
  have hD : va_D A ([(m0, .inr (5, [.ref q7, .ref q15, .int 0, .ref q23, .ref q31, .null, .null, .null, .int 0, .null, .null, .null, .null, .int 0, .int 0, .int 0]))] ++ (W_A cI q7 (fun _ => 0)) ++ (W_A cI q15 (fun _ => 0)) ++ (W_A cI q23 (fun _ => 0)) ++ (W_A cI q31 (fun _ => 0)) ++ [(q40, .inl (cI, 302, .inl (fun _ => 0)))]) := hD
  refine va_putF (D := D) (ci := 5) (v := .ref q40) (ty := (.array .int)) (C := RX5) (T := TX5) (N := 16) hx hb hts (by decide +kernel) tyX5 tyX5_ok nmX5 hown hK hP hD hS 0 rfl rfl 5 (by decide) (hts (.fieldLink RX5 22 "AlarmgroveModel" "nodes" "[I") (by decide +kernel)) (fun _ h9 => h9) rfl hin rfl (by decide +kernel) rfl rfl (Nat.le_of_ble_eq_true rfl) dX5_init_42 (fun H locs hP hD hS => ?_)
  have hP : va_P D vwCl ([(m0, .inr (5, [.ref q7, .ref q15, .int 0, .ref q23, .ref q31, .ref q40, .null, .null, .int 0, .null, .null, .null, .null, .int 0, .int 0, .int 0]))] ++ (W_A cI q7 (fun _ => 0)) ++ (W_A cI q15 (fun _ => 0)) ++ (W_A cI q23 (fun _ => 0)) ++ (W_A cI q31 (fun _ => 0)) ++ [(q40, .inl (cI, 302, .inl (fun _ => 0)))]) H := hP
  have hD : va_D A ([(m0, .inr (5, [.ref q7, .ref q15, .int 0, .ref q23, .ref q31, .ref q40, .null, .null, .int 0, .null, .null, .null, .null, .int 0, .int 0, .int 0]))] ++ (W_A cI q7 (fun _ => 0)) ++ (W_A cI q15 (fun _ => 0)) ++ (W_A cI q23 (fun _ => 0)) ++ (W_A cI q31 (fun _ => 0)) ++ [(q40, .inl (cI, 302, .inl (fun _ => 0)))]) := hD
  refine lv_aload_n hx hb dX5_init_45 rfl (lv_at hl 0 rfl) ?_
  refine lv_sipush (v := 302) hx hb dX5_init_46 (by decide) ?_
  refine k_newI (N' := 302) hx hb (hts (.arrayClass .int) (by decide +kernel)) hK hP hD hS hA (by decide) (by decide) (by decide) (Nat.le_of_ble_eq_true rfl) (Nat.le_of_ble_eq_true rfl) dX5_init_49 (fun q49 H hP hD hS => ?_)
  have hP : va_P D vwCl ([(m0, .inr (5, [.ref q7, .ref q15, .int 0, .ref q23, .ref q31, .ref q40, .null, .null, .int 0, .null, .null, .null, .null, .int 0, .int 0, .int 0]))] ++ (W_A cI q7 (fun _ => 0)) ++ (W_A cI q15 (fun _ => 0)) ++ (W_A cI q23 (fun _ => 0)) ++ (W_A cI q31 (fun _ => 0)) ++ [(q40, .inl (cI, 302, .inl (fun _ => 0))), (q49, .inl (cI, 302, .inl (fun _ => 0)))]) H := hP
  have hD : va_D A ([(m0, .inr (5, [.ref q7, .ref q15, .int 0, .ref q23, .ref q31, .ref q40, .null, .null, .int 0, .null, .null, .null, .null, .int 0, .int 0, .int 0]))] ++ (W_A cI q7 (fun _ => 0)) ++ (W_A cI q15 (fun _ => 0)) ++ (W_A cI q23 (fun _ => 0)) ++ (W_A cI q31 (fun _ => 0)) ++ [(q40, .inl (cI, 302, .inl (fun _ => 0))), (q49, .inl (cI, 302, .inl (fun _ => 0)))]) := hD
  refine va_putF (D := D) (ci := 5) (v := .ref q49) (ty := (.array .int)) (C := RX5) (T := TX5) (N := 16) hx hb hts (by decide +kernel) tyX5 tyX5_ok nmX5 hown hK hP hD hS 0 rfl rfl 6 (by decide) (hts (.fieldLink RX5 25 "AlarmgroveModel" "states" "[I") (by decide +kernel)) (fun _ h9 => h9) rfl hin rfl (by decide +kernel) rfl rfl (Nat.le_of_ble_eq_true rfl) dX5_init_51 (fun H locs hP hD hS => ?_)
  have hP : va_P D vwCl ([(m0, .inr (5, [.ref q7, .ref q15, .int 0, .ref q23, .ref q31, .ref q40, .ref q49, .null, .int 0, .null, .null, .null, .null, .int 0, .int 0, .int 0]))] ++ (W_A cI q7 (fun _ => 0)) ++ (W_A cI q15 (fun _ => 0)) ++ (W_A cI q23 (fun _ => 0)) ++ (W_A cI q31 (fun _ => 0)) ++ [(q40, .inl (cI, 302, .inl (fun _ => 0))), (q49, .inl (cI, 302, .inl (fun _ => 0)))]) H := hP
  have hD : va_D A ([(m0, .inr (5, [.ref q7, .ref q15, .int 0, .ref q23, .ref q31, .ref q40, .ref q49, .null, .int 0, .null, .null, .null, .null, .int 0, .int 0, .int 0]))] ++ (W_A cI q7 (fun _ => 0)) ++ (W_A cI q15 (fun _ => 0)) ++ (W_A cI q23 (fun _ => 0)) ++ (W_A cI q31 (fun _ => 0)) ++ [(q40, .inl (cI, 302, .inl (fun _ => 0))), (q49, .inl (cI, 302, .inl (fun _ => 0)))]) := hD
  refine lv_aload_n hx hb dX5_init_54 rfl (lv_at hl 0 rfl) ?_
  refine lv_sipush (v := 302) hx hb dX5_init_55 (by decide) ?_
  refine k_newI (N' := 302) hx hb (hts (.arrayClass .int) (by decide +kernel)) hK hP hD hS hA (by decide) (by decide) (by decide) (Nat.le_of_ble_eq_true rfl) (Nat.le_of_ble_eq_true rfl) dX5_init_58 (fun q58 H hP hD hS => ?_)
  have hP : va_P D vwCl ([(m0, .inr (5, [.ref q7, .ref q15, .int 0, .ref q23, .ref q31, .ref q40, .ref q49, .null, .int 0, .null, .null, .null, .null, .int 0, .int 0, .int 0]))] ++ (W_A cI q7 (fun _ => 0)) ++ (W_A cI q15 (fun _ => 0)) ++ (W_A cI q23 (fun _ => 0)) ++ (W_A cI q31 (fun _ => 0)) ++ [(q40, .inl (cI, 302, .inl (fun _ => 0))), (q49, .inl (cI, 302, .inl (fun _ => 0))), (q58, .inl (cI, 302, .inl (fun _ => 0)))]) H := hP
  have hD : va_D A ([(m0, .inr (5, [.ref q7, .ref q15, .int 0, .ref q23, .ref q31, .ref q40, .ref q49, .null, .int 0, .null, .null, .null, .null, .int 0, .int 0, .int 0]))] ++ (W_A cI q7 (fun _ => 0)) ++ (W_A cI q15 (fun _ => 0)) ++ (W_A cI q23 (fun _ => 0)) ++ (W_A cI q31 (fun _ => 0)) ++ [(q40, .inl (cI, 302, .inl (fun _ => 0))), (q49, .inl (cI, 302, .inl (fun _ => 0))), (q58, .inl (cI, 302, .inl (fun _ => 0)))]) := hD
  refine va_putF (D := D) (ci := 5) (v := .ref q58) (ty := (.array .int)) (C := RX5) (T := TX5) (N := 16) hx hb hts (by decide +kernel) tyX5 tyX5_ok nmX5 hown hK hP hD hS 0 rfl rfl 7 (by decide) (hts (.fieldLink RX5 28 "AlarmgroveModel" "into" "[I") (by decide +kernel)) (fun _ h9 => h9) rfl hin rfl (by decide +kernel) rfl rfl (Nat.le_of_ble_eq_true rfl) dX5_init_60 (fun H locs hP hD hS => ?_)
  have hP : va_P D vwCl ([(m0, .inr (5, [.ref q7, .ref q15, .int 0, .ref q23, .ref q31, .ref q40, .ref q49, .ref q58, .int 0, .null, .null, .null, .null, .int 0, .int 0, .int 0]))] ++ (W_A cI q7 (fun _ => 0)) ++ (W_A cI q15 (fun _ => 0)) ++ (W_A cI q23 (fun _ => 0)) ++ (W_A cI q31 (fun _ => 0)) ++ [(q40, .inl (cI, 302, .inl (fun _ => 0))), (q49, .inl (cI, 302, .inl (fun _ => 0))), (q58, .inl (cI, 302, .inl (fun _ => 0)))]) H := hP
  have hD : va_D A ([(m0, .inr (5, [.ref q7, .ref q15, .int 0, .ref q23, .ref q31, .ref q40, .ref q49, .ref q58, .int 0, .null, .null, .null, .null, .int 0, .int 0, .int 0]))] ++ (W_A cI q7 (fun _ => 0)) ++ (W_A cI q15 (fun _ => 0)) ++ (W_A cI q23 (fun _ => 0)) ++ (W_A cI q31 (fun _ => 0)) ++ [(q40, .inl (cI, 302, .inl (fun _ => 0))), (q49, .inl (cI, 302, .inl (fun _ => 0))), (q58, .inl (cI, 302, .inl (fun _ => 0)))]) := hD
  refine lv_aload_n hx hb dX5_init_63 rfl (lv_at hl 0 rfl) ?_
  refine lv_sipush (v := 300) hx hb dX5_init_64 (by decide) ?_
  refine k_newI (N' := 300) hx hb (hts (.arrayClass .int) (by decide +kernel)) hK hP hD hS hA (by decide) (by decide) (by decide) (Nat.le_of_ble_eq_true rfl) (Nat.le_of_ble_eq_true rfl) dX5_init_67 (fun q67 H hP hD hS => ?_)
  have hP : va_P D vwCl ([(m0, .inr (5, [.ref q7, .ref q15, .int 0, .ref q23, .ref q31, .ref q40, .ref q49, .ref q58, .int 0, .null, .null, .null, .null, .int 0, .int 0, .int 0]))] ++ (W_A cI q7 (fun _ => 0)) ++ (W_A cI q15 (fun _ => 0)) ++ (W_A cI q23 (fun _ => 0)) ++ (W_A cI q31 (fun _ => 0)) ++ [(q40, .inl (cI, 302, .inl (fun _ => 0))), (q49, .inl (cI, 302, .inl (fun _ => 0))), (q58, .inl (cI, 302, .inl (fun _ => 0))), (q67, .inl (cI, 300, .inl (fun _ => 0)))]) H := hP
  have hD : va_D A ([(m0, .inr (5, [.ref q7, .ref q15, .int 0, .ref q23, .ref q31, .ref q40, .ref q49, .ref q58, .int 0, .null, .null, .null, .null, .int 0, .int 0, .int 0]))] ++ (W_A cI q7 (fun _ => 0)) ++ (W_A cI q15 (fun _ => 0)) ++ (W_A cI q23 (fun _ => 0)) ++ (W_A cI q31 (fun _ => 0)) ++ [(q40, .inl (cI, 302, .inl (fun _ => 0))), (q49, .inl (cI, 302, .inl (fun _ => 0))), (q58, .inl (cI, 302, .inl (fun _ => 0))), (q67, .inl (cI, 300, .inl (fun _ => 0)))]) := hD
  refine va_putF (D := D) (ci := 5) (v := .ref q67) (ty := (.array .int)) (C := RX5) (T := TX5) (N := 16) hx hb hts (by decide +kernel) tyX5 tyX5_ok nmX5 hown hK hP hD hS 0 rfl rfl 9 (by decide) (hts (.fieldLink RX5 31 "AlarmgroveModel" "kind" "[I") (by decide +kernel)) (fun _ h9 => h9) rfl hin rfl (by decide +kernel) rfl rfl (Nat.le_of_ble_eq_true rfl) dX5_init_69 (fun H locs hP hD hS => ?_)
  have hP : va_P D vwCl ([(m0, .inr (5, [.ref q7, .ref q15, .int 0, .ref q23, .ref q31, .ref q40, .ref q49, .ref q58, .int 0, .ref q67, .null, .null, .null, .int 0, .int 0, .int 0]))] ++ (W_A cI q7 (fun _ => 0)) ++ (W_A cI q15 (fun _ => 0)) ++ (W_A cI q23 (fun _ => 0)) ++ (W_A cI q31 (fun _ => 0)) ++ [(q40, .inl (cI, 302, .inl (fun _ => 0))), (q49, .inl (cI, 302, .inl (fun _ => 0))), (q58, .inl (cI, 302, .inl (fun _ => 0))), (q67, .inl (cI, 300, .inl (fun _ => 0)))]) H := hP
  have hD : va_D A ([(m0, .inr (5, [.ref q7, .ref q15, .int 0, .ref q23, .ref q31, .ref q40, .ref q49, .ref q58, .int 0, .ref q67, .null, .null, .null, .int 0, .int 0, .int 0]))] ++ (W_A cI q7 (fun _ => 0)) ++ (W_A cI q15 (fun _ => 0)) ++ (W_A cI q23 (fun _ => 0)) ++ (W_A cI q31 (fun _ => 0)) ++ [(q40, .inl (cI, 302, .inl (fun _ => 0))), (q49, .inl (cI, 302, .inl (fun _ => 0))), (q58, .inl (cI, 302, .inl (fun _ => 0))), (q67, .inl (cI, 300, .inl (fun _ => 0)))]) := hD
  refine lv_aload_n hx hb dX5_init_72 rfl (lv_at hl 0 rfl) ?_
  refine lv_sipush (v := 300) hx hb dX5_init_73 (by decide) ?_
  refine k_newI (N' := 300) hx hb (hts (.arrayClass .int) (by decide +kernel)) hK hP hD hS hA (by decide) (by decide) (by decide) (Nat.le_of_ble_eq_true rfl) (Nat.le_of_ble_eq_true rfl) dX5_init_76 (fun q76 H hP hD hS => ?_)
  have hP : va_P D vwCl ([(m0, .inr (5, [.ref q7, .ref q15, .int 0, .ref q23, .ref q31, .ref q40, .ref q49, .ref q58, .int 0, .ref q67, .null, .null, .null, .int 0, .int 0, .int 0]))] ++ (W_A cI q7 (fun _ => 0)) ++ (W_A cI q15 (fun _ => 0)) ++ (W_A cI q23 (fun _ => 0)) ++ (W_A cI q31 (fun _ => 0)) ++ [(q40, .inl (cI, 302, .inl (fun _ => 0))), (q49, .inl (cI, 302, .inl (fun _ => 0))), (q58, .inl (cI, 302, .inl (fun _ => 0))), (q67, .inl (cI, 300, .inl (fun _ => 0))), (q76, .inl (cI, 300, .inl (fun _ => 0)))]) H := hP
  have hD : va_D A ([(m0, .inr (5, [.ref q7, .ref q15, .int 0, .ref q23, .ref q31, .ref q40, .ref q49, .ref q58, .int 0, .ref q67, .null, .null, .null, .int 0, .int 0, .int 0]))] ++ (W_A cI q7 (fun _ => 0)) ++ (W_A cI q15 (fun _ => 0)) ++ (W_A cI q23 (fun _ => 0)) ++ (W_A cI q31 (fun _ => 0)) ++ [(q40, .inl (cI, 302, .inl (fun _ => 0))), (q49, .inl (cI, 302, .inl (fun _ => 0))), (q58, .inl (cI, 302, .inl (fun _ => 0))), (q67, .inl (cI, 300, .inl (fun _ => 0))), (q76, .inl (cI, 300, .inl (fun _ => 0)))]) := hD
  refine va_putF (D := D) (ci := 5) (v := .ref q76) (ty := (.array .int)) (C := RX5) (T := TX5) (N := 16) hx hb hts (by decide +kernel) tyX5 tyX5_ok nmX5 hown hK hP hD hS 0 rfl rfl 10 (by decide) (hts (.fieldLink RX5 34 "AlarmgroveModel" "node" "[I") (by decide +kernel)) (fun _ h9 => h9) rfl hin rfl (by decide +kernel) rfl rfl (Nat.le_of_ble_eq_true rfl) dX5_init_78 (fun H locs hP hD hS => ?_)
  have hP : va_P D vwCl ([(m0, .inr (5, [.ref q7, .ref q15, .int 0, .ref q23, .ref q31, .ref q40, .ref q49, .ref q58, .int 0, .ref q67, .ref q76, .null, .null, .int 0, .int 0, .int 0]))] ++ (W_A cI q7 (fun _ => 0)) ++ (W_A cI q15 (fun _ => 0)) ++ (W_A cI q23 (fun _ => 0)) ++ (W_A cI q31 (fun _ => 0)) ++ [(q40, .inl (cI, 302, .inl (fun _ => 0))), (q49, .inl (cI, 302, .inl (fun _ => 0))), (q58, .inl (cI, 302, .inl (fun _ => 0))), (q67, .inl (cI, 300, .inl (fun _ => 0))), (q76, .inl (cI, 300, .inl (fun _ => 0)))]) H := hP
  have hD : va_D A ([(m0, .inr (5, [.ref q7, .ref q15, .int 0, .ref q23, .ref q31, .ref q40, .ref q49, .ref q58, .int 0, .ref q67, .ref q76, .null, .null, .int 0, .int 0, .int 0]))] ++ (W_A cI q7 (fun _ => 0)) ++ (W_A cI q15 (fun _ => 0)) ++ (W_A cI q23 (fun _ => 0)) ++ (W_A cI q31 (fun _ => 0)) ++ [(q40, .inl (cI, 302, .inl (fun _ => 0))), (q49, .inl (cI, 302, .inl (fun _ => 0))), (q58, .inl (cI, 302, .inl (fun _ => 0))), (q67, .inl (cI, 300, .inl (fun _ => 0))), (q76, .inl (cI, 300, .inl (fun _ => 0)))]) := hD
  refine lv_aload_n hx hb dX5_init_81 rfl (lv_at hl 0 rfl) ?_
  refine lv_sipush (v := 300) hx hb dX5_init_82 (by decide) ?_
  refine k_newI (N' := 300) hx hb (hts (.arrayClass .int) (by decide +kernel)) hK hP hD hS hA (by decide) (by decide) (by decide) (Nat.le_of_ble_eq_true rfl) (Nat.le_of_ble_eq_true rfl) dX5_init_85 (fun q85 H hP hD hS => ?_)
  have hP : va_P D vwCl ([(m0, .inr (5, [.ref q7, .ref q15, .int 0, .ref q23, .ref q31, .ref q40, .ref q49, .ref q58, .int 0, .ref q67, .ref q76, .null, .null, .int 0, .int 0, .int 0]))] ++ (W_A cI q7 (fun _ => 0)) ++ (W_A cI q15 (fun _ => 0)) ++ (W_A cI q23 (fun _ => 0)) ++ (W_A cI q31 (fun _ => 0)) ++ [(q40, .inl (cI, 302, .inl (fun _ => 0))), (q49, .inl (cI, 302, .inl (fun _ => 0))), (q58, .inl (cI, 302, .inl (fun _ => 0))), (q67, .inl (cI, 300, .inl (fun _ => 0))), (q76, .inl (cI, 300, .inl (fun _ => 0))), (q85, .inl (cI, 300, .inl (fun _ => 0)))]) H := hP
  have hD : va_D A ([(m0, .inr (5, [.ref q7, .ref q15, .int 0, .ref q23, .ref q31, .ref q40, .ref q49, .ref q58, .int 0, .ref q67, .ref q76, .null, .null, .int 0, .int 0, .int 0]))] ++ (W_A cI q7 (fun _ => 0)) ++ (W_A cI q15 (fun _ => 0)) ++ (W_A cI q23 (fun _ => 0)) ++ (W_A cI q31 (fun _ => 0)) ++ [(q40, .inl (cI, 302, .inl (fun _ => 0))), (q49, .inl (cI, 302, .inl (fun _ => 0))), (q58, .inl (cI, 302, .inl (fun _ => 0))), (q67, .inl (cI, 300, .inl (fun _ => 0))), (q76, .inl (cI, 300, .inl (fun _ => 0))), (q85, .inl (cI, 300, .inl (fun _ => 0)))]) := hD
  refine va_putF (D := D) (ci := 5) (v := .ref q85) (ty := (.array .int)) (C := RX5) (T := TX5) (N := 16) hx hb hts (by decide +kernel) tyX5 tyX5_ok nmX5 hown hK hP hD hS 0 rfl rfl 11 (by decide) (hts (.fieldLink RX5 37 "AlarmgroveModel" "time" "[I") (by decide +kernel)) (fun _ h9 => h9) rfl hin rfl (by decide +kernel) rfl rfl (Nat.le_of_ble_eq_true rfl) dX5_init_87 (fun H locs hP hD hS => ?_)
  have hP : va_P D vwCl ([(m0, .inr (5, [.ref q7, .ref q15, .int 0, .ref q23, .ref q31, .ref q40, .ref q49, .ref q58, .int 0, .ref q67, .ref q76, .ref q85, .null, .int 0, .int 0, .int 0]))] ++ (W_A cI q7 (fun _ => 0)) ++ (W_A cI q15 (fun _ => 0)) ++ (W_A cI q23 (fun _ => 0)) ++ (W_A cI q31 (fun _ => 0)) ++ [(q40, .inl (cI, 302, .inl (fun _ => 0))), (q49, .inl (cI, 302, .inl (fun _ => 0))), (q58, .inl (cI, 302, .inl (fun _ => 0))), (q67, .inl (cI, 300, .inl (fun _ => 0))), (q76, .inl (cI, 300, .inl (fun _ => 0))), (q85, .inl (cI, 300, .inl (fun _ => 0)))]) H := hP
  have hD : va_D A ([(m0, .inr (5, [.ref q7, .ref q15, .int 0, .ref q23, .ref q31, .ref q40, .ref q49, .ref q58, .int 0, .ref q67, .ref q76, .ref q85, .null, .int 0, .int 0, .int 0]))] ++ (W_A cI q7 (fun _ => 0)) ++ (W_A cI q15 (fun _ => 0)) ++ (W_A cI q23 (fun _ => 0)) ++ (W_A cI q31 (fun _ => 0)) ++ [(q40, .inl (cI, 302, .inl (fun _ => 0))), (q49, .inl (cI, 302, .inl (fun _ => 0))), (q58, .inl (cI, 302, .inl (fun _ => 0))), (q67, .inl (cI, 300, .inl (fun _ => 0))), (q76, .inl (cI, 300, .inl (fun _ => 0))), (q85, .inl (cI, 300, .inl (fun _ => 0)))]) := hD
  refine lv_aload_n hx hb dX5_init_90 rfl (lv_at hl 0 rfl) ?_
  refine lv_sipush (v := 300) hx hb dX5_init_91 (by decide) ?_
  refine k_newI (N' := 300) hx hb (hts (.arrayClass .int) (by decide +kernel)) hK hP hD hS hA (by decide) (by decide) (by decide) (Nat.le_of_ble_eq_true rfl) (Nat.le_of_ble_eq_true rfl) dX5_init_94 (fun q94 H hP hD hS => ?_)
  have hP : va_P D vwCl ([(m0, .inr (5, [.ref q7, .ref q15, .int 0, .ref q23, .ref q31, .ref q40, .ref q49, .ref q58, .int 0, .ref q67, .ref q76, .ref q85, .null, .int 0, .int 0, .int 0]))] ++ (W_A cI q7 (fun _ => 0)) ++ (W_A cI q15 (fun _ => 0)) ++ (W_A cI q23 (fun _ => 0)) ++ (W_A cI q31 (fun _ => 0)) ++ [(q40, .inl (cI, 302, .inl (fun _ => 0))), (q49, .inl (cI, 302, .inl (fun _ => 0))), (q58, .inl (cI, 302, .inl (fun _ => 0))), (q67, .inl (cI, 300, .inl (fun _ => 0))), (q76, .inl (cI, 300, .inl (fun _ => 0))), (q85, .inl (cI, 300, .inl (fun _ => 0))), (q94, .inl (cI, 300, .inl (fun _ => 0)))]) H := hP
  have hD : va_D A ([(m0, .inr (5, [.ref q7, .ref q15, .int 0, .ref q23, .ref q31, .ref q40, .ref q49, .ref q58, .int 0, .ref q67, .ref q76, .ref q85, .null, .int 0, .int 0, .int 0]))] ++ (W_A cI q7 (fun _ => 0)) ++ (W_A cI q15 (fun _ => 0)) ++ (W_A cI q23 (fun _ => 0)) ++ (W_A cI q31 (fun _ => 0)) ++ [(q40, .inl (cI, 302, .inl (fun _ => 0))), (q49, .inl (cI, 302, .inl (fun _ => 0))), (q58, .inl (cI, 302, .inl (fun _ => 0))), (q67, .inl (cI, 300, .inl (fun _ => 0))), (q76, .inl (cI, 300, .inl (fun _ => 0))), (q85, .inl (cI, 300, .inl (fun _ => 0))), (q94, .inl (cI, 300, .inl (fun _ => 0)))]) := hD
  refine va_putF (D := D) (ci := 5) (v := .ref q94) (ty := (.array .int)) (C := RX5) (T := TX5) (N := 16) hx hb hts (by decide +kernel) tyX5 tyX5_ok nmX5 hown hK hP hD hS 0 rfl rfl 12 (by decide) (hts (.fieldLink RX5 40 "AlarmgroveModel" "length" "[I") (by decide +kernel)) (fun _ h9 => h9) rfl hin rfl (by decide +kernel) rfl rfl (Nat.le_of_ble_eq_true rfl) dX5_init_96 (fun H locs hP hD hS => ?_)
  have hP : va_P D vwCl (W_X5 cI m0 q7 q15 q23 q31 q40 q49 q58 q67 q76 q85 q94 0 0 0 0 0 (fun _ => 0) (fun _ => 0) (fun _ => 0) (fun _ => 0) (fun _ => 0) (fun _ => 0) (fun _ => 0) (fun _ => 0) (fun _ => 0) (fun _ => 0) (fun _ => 0)) H := hP
  have hD : va_D A (W_X5 cI m0 q7 q15 q23 q31 q40 q49 q58 q67 q76 q85 q94 0 0 0 0 0 (fun _ => 0) (fun _ => 0) (fun _ => 0) (fun _ => 0) (fun _ => 0) (fun _ => 0) (fun _ => 0) (fun _ => 0) (fun _ => 0) (fun _ => 0) (fun _ => 0)) := hD
  exact W.vret hx hb hr (fun t ht hW => ⟨⟨(((fun _ => 0), (fun _ => 0), (fun _ => 0), (fun _ => 0), (fun _ => 0), (fun _ => 0), (fun _ => 0), (fun _ => 0), (fun _ => 0), (fun _ => 0), (fun _ => 0)), (q7, q15, q23, q31, q40, q49, q58, q67, q76, q85, q94)), rfl, he, by rw [ht]; exact hP, va_K.moved hW.alike hK, hD⟩, hS.F ht⟩) hS.2.2 dX5_init_99
abbrev rm_X5_thrown : Room := { frames := 0, cells := 0, slots := 0, locals := 0 }
abbrev Q_X5_thrown (D : va_G) (cI : ClassId) (m0 m1 m2 m3 m4 m5 m6 m7 m8 m9 m10 m11 : Nat) (mr : Int32) (mc : Int32) (me : Int32) (mw : Int32) (mh : Int32) (mn : AA) (mu : AA) (ms : AA) (mt : AA) (md : AA) (mz : AA) (mi : AA) (mk : AA) (mo : AA) (mj : AA) (ml : AA) (A : Nat → Prop) : Array Value → State → Outcome → State → Prop := va_Qi (S := Unit) (fun r u => f_X5_thrown mh = r) (fun u t => QW D [(cI, .int)] A (W_X5 cI m0 m1 m2 m3 m4 m5 m6 m7 m8 m9 m10 m11 mr mc me mw mh mn mu ms mt md mz mi mk mo mj ml) t) A
set_option maxHeartbeats 4000000 in
set_option maxRecDepth 100000 in
theorem c_X5_thrown (l : Launch)  (D : va_G) (cI : ClassId) (m0 m1 m2 m3 m4 m5 m6 m7 m8 m9 m10 m11 : Nat) (mr : Int32) (mc : Int32) (me : Int32) (mw : Int32) (mh : Int32) (mn : AA) (mu : AA) (ms : AA) (mt : AA) (md : AA) (mz : AA) (mi : AA) (mk : AA) (mo : AA) (mj : AA) (ml : AA) (sz : Nat) : Met l yX5_thrown wsX5_thrown rm_X5_thrown (va_Pc [.ref m0] (PW D [(cI, .int)] sz (W_X5 cI m0 m1 m2 m3 m4 m5 m6 m7 m8 m9 m10 m11 mr mc me mw mh mn mu ms mt md mz mi mk mo mj ml))) (Q_X5_thrown D cI m0 m1 m2 m3 m4 m5 m6 m7 m8 m9 m10 m11 mr mc me mw mh mn mu ms mt md mz mi mk mo mj ml (va_A (W_X5 cI m0 m1 m2 m3 m4 m5 m6 m7 m8 m9 m10 m11 mr mc me mw mh mn mu ms mt md mz mi mk mo mj ml) sz)) 0 0 (va_A (W_X5 cI m0 m1 m2 m3 m4 m5 m6 m7 m8 m9 m10 m11 mr mc me mw mh mn mu ms mt md mz mi mk mo mj ml) sz) := by
  refine Met.ofW (cc := cX5_thrown) (maxL := 1) (ret := (some .int)) (by decide) rfl ?_
  intro p e s m args below meth c s₁ B hml hv
  obtain ⟨rfl, hsz, hP, hK, hD0, hN⟩ := hv
  have hx := B.exec
  have hb := B.bytes
  have hr := B.returns
  have hts := atoms_spec (ws := wsX5_thrown) B.pre
  have hown : s.vm.findClass RX5 = some m.cls := findClass_of_methodNamed B.named
  have hlocks := B.notSynchronized
  subst hsz
  have hD := hD0.self (sz := s.heap.size)
  generalize hAe : va_A (W_X5 cI m0 m1 m2 m3 m4 m5 m6 m7 m8 m9 m10 m11 mr mc me mw mh mn mu ms mt md mz mi mk mo mj ml) s.heap.size = A at hD ⊢
  have hA : ∀ q : Nat, s.heap.size ≤ q → A q := fun q h => by rw [← hAe]; exact Or.inr h
  have hS : va_S A s.heap s.heap [] := va_S.rf
  have hl := lv_entry ([.ref m0]) (n := 1) (Nat.le_of_ble_eq_true rfl)
  rw [lg_entry_eq]
  generalize (lg_sl ([.ref m0]) ++ List.replicate (1 - (lg_sl ([.ref m0])).length) Slot.unset).toArray = ls at hl ⊢
  have hl : lv_has ls 1 [(0, .ref m0)] := hl
  have he := f_X5_thrown.eq_1 mh
  refine lv_aload_n hx hb dX5_thrown_0 rfl (lv_at hl 0 rfl) ?_
  refine va_get (D := D) (ci := 5) (v := .int mh) (C := RX5) (T := TX5) (N := 16) hx hb hts (by decide +kernel) hown hK hP 0 rfl rfl 15 (by decide) (hts (.fieldLink RX5 43 "AlarmgroveModel" "thrown" "I") (by decide +kernel)) (fun _ h9 => h9) rfl dX5_thrown_1 ?_
  exact W.iret (v := mh) hx hb hr (fun t ht hW => ⟨⟨mh, (), rfl, he, by rw [ht]; exact hP, va_K.moved hW.alike hK, hD⟩, hS.F ht⟩) hS.2.2 dX5_thrown_4
abbrev rm_X5_goes : Room := { frames := 0, cells := 0, slots := 0, locals := 0 }
abbrev Q_X5_goes (D : va_G) (cI : ClassId) (m0 m1 m2 m3 m4 m5 m6 m7 m8 m9 m10 m11 : Nat) (mr : Int32) (mc : Int32) (me : Int32) (mw : Int32) (mh : Int32) (mn : AA) (mu : AA) (ms : AA) (mt : AA) (md : AA) (mz : AA) (mi : AA) (mk : AA) (mo : AA) (mj : AA) (ml : AA) (a1 a2 : Int32) (A : Nat → Prop) : Array Value → State → Outcome → State → Prop := va_Qi (S := Int32) (fun r u => f_X5_goes a1 a2 = (r, u) ∧ (r = 0 ∨ r = 1)) (fun u t => QW D [(cI, .int)] A (W_X5 cI m0 m1 m2 m3 m4 m5 m6 m7 m8 m9 m10 m11 mr mc me mw u mn mu ms mt md mz mi mk mo mj ml) t) A
set_option maxHeartbeats 4000000 in
set_option maxRecDepth 100000 in
theorem c_X5_goes (l : Launch)  (D : va_G) (cI : ClassId) (m0 m1 m2 m3 m4 m5 m6 m7 m8 m9 m10 m11 : Nat) (mr : Int32) (mc : Int32) (me : Int32) (mw : Int32) (mh : Int32) (mn : AA) (mu : AA) (ms : AA) (mt : AA) (md : AA) (mz : AA) (mi : AA) (mk : AA) (mo : AA) (mj : AA) (ml : AA) (sz : Nat) (a1 a2 : Int32) : Met l yX5_goes wsX5_goes rm_X5_goes (va_Pc [.ref m0, .int a1, .int a2] (PW D [(cI, .int)] sz (W_X5 cI m0 m1 m2 m3 m4 m5 m6 m7 m8 m9 m10 m11 mr mc me mw mh mn mu ms mt md mz mi mk mo mj ml))) (Q_X5_goes D cI m0 m1 m2 m3 m4 m5 m6 m7 m8 m9 m10 m11 mr mc me mw mh mn mu ms mt md mz mi mk mo mj ml a1 a2 (va_A (W_X5 cI m0 m1 m2 m3 m4 m5 m6 m7 m8 m9 m10 m11 mr mc me mw mh mn mu ms mt md mz mi mk mo mj ml) sz)) 0 0 (va_A (W_X5 cI m0 m1 m2 m3 m4 m5 m6 m7 m8 m9 m10 m11 mr mc me mw mh mn mu ms mt md mz mi mk mo mj ml) sz) := by
  refine Met.ofW (cc := cX5_goes) (maxL := 3) (ret := (some .boolean)) (by decide) rfl ?_
  intro p e s m args below meth c s₁ B hml hv
  obtain ⟨rfl, hsz, hP, hK, hD0, hN⟩ := hv
  have hx := B.exec
  have hb := B.bytes
  have hr := B.returns
  have hts := atoms_spec (ws := wsX5_goes) B.pre
  have hown : s.vm.findClass RX5 = some m.cls := findClass_of_methodNamed B.named
  have hlocks := B.notSynchronized
  subst hsz
  have hD := hD0.self (sz := s.heap.size)
  generalize hAe : va_A (W_X5 cI m0 m1 m2 m3 m4 m5 m6 m7 m8 m9 m10 m11 mr mc me mw mh mn mu ms mt md mz mi mk mo mj ml) s.heap.size = A at hD ⊢
  have hA : ∀ q : Nat, s.heap.size ≤ q → A q := fun q h => by rw [← hAe]; exact Or.inr h
  have hS : va_S A s.heap s.heap [] := va_S.rf
  have hl := lv_entry ([.ref m0, .int a1, .int a2]) (n := 3) (Nat.le_of_ble_eq_true rfl)
  rw [lg_entry_eq]
  generalize (lg_sl ([.ref m0, .int a1, .int a2]) ++ List.replicate (3 - (lg_sl ([.ref m0, .int a1, .int a2])).length) Slot.unset).toArray = ls at hl ⊢
  have hl : lv_has ls 3 [(0, .ref m0), (1, .int a1), (2, .int a2)] := hl
  have he := f_X5_goes.eq_1 a1 a2
  refine lv_aload_n hx hb dX5_goes_0 rfl (lv_at hl 0 rfl) ?_
  refine lv_iload_n hx hb dX5_goes_1 rfl (lv_at hl 1 rfl) ?_
  obtain ⟨j1, hJ1⟩ : ∃ z : Int32, z = (if a1 = 0 then (1 : Int32) else (if a2 = 0 then (2 : Int32) else (0 : Int32))) := ⟨_, rfl⟩
  rw [← hJ1] at he
  try dsimp only at he
  have kont1 : ∀ (H : Heap) (locs : List Loc), va_P D vwCl (W_X5 cI m0 m1 m2 m3 m4 m5 m6 m7 m8 m9 m10 m11 mr mc me mw mh mn mu ms mt md mz mi mk mo mj ml) H → va_D A (W_X5 cI m0 m1 m2 m3 m4 m5 m6 m7 m8 m9 m10 m11 mr mc me mw mh mn mu ms mt md mz mi mk mo mj ml) → va_S A s.heap H locs → ∀ ls : Array Slot, lv_has ls 3 [(0, .ref m0)] → W p l e (headSpec wsX5_goes rm_X5_goes).room s m ([.ref m0, .int a1, .int a2] : List Value).toArray below meth c H locs 0 0 (MQ below (Q_X5_goes D cI m0 m1 m2 m3 m4 m5 m6 m7 m8 m9 m10 m11 mr mc me mw mh mn mu ms mt md mz mi mk mo mj ml a1 a2 A) ([.ref m0, .int a1, .int a2] : List Value).toArray s 0 0 A) (F0 m 18 ls [.int j1, .ref m0]) := by
    intro H locs hP hD hS ls hl
    refine va_put (D := D) (ci := 5) (v := .int j1) (ty := .int) (C := RX5) (T := TX5) (N := 16) hx hb hts (by decide +kernel) tyX5 tyX5_ok nmX5 hown hK hP hD hS 0 rfl rfl 15 (by decide) (hts (.fieldLink RX5 43 "AlarmgroveModel" "thrown" "I") (by decide +kernel)) (fun _ h9 => h9) rfl (by decide +kernel) rfl rfl (Nat.le_of_ble_eq_true rfl) dX5_goes_18 (fun H locs hP hD hS => ?_)
    have hP : va_P D vwCl (W_X5 cI m0 m1 m2 m3 m4 m5 m6 m7 m8 m9 m10 m11 mr mc me mw j1 mn mu ms mt md mz mi mk mo mj ml) H := hP
    have hD : va_D A (W_X5 cI m0 m1 m2 m3 m4 m5 m6 m7 m8 m9 m10 m11 mr mc me mw j1 mn mu ms mt md mz mi mk mo mj ml) := hD
    refine lv_aload_n hx hb dX5_goes_21 rfl (lv_at hl 0 rfl) ?_
    refine va_get (D := D) (ci := 5) (v := .int j1) (C := RX5) (T := TX5) (N := 16) hx hb hts (by decide +kernel) hown hK hP 0 rfl rfl 15 (by decide) (hts (.fieldLink RX5 43 "AlarmgroveModel" "thrown" "I") (by decide +kernel)) (fun _ h9 => h9) rfl dX5_goes_22 ?_
    obtain ⟨j4, hJ4⟩ : ∃ z : Int32, z = (if j1 = 0 then (1 : Int32) else (0 : Int32)) := ⟨_, rfl⟩
    rw [← hJ4] at he
    try dsimp only at he
    have kont4 : (j4 = 0 ∨ j4 = 1) → ∀ (H : Heap) (locs : List Loc), va_P D vwCl (W_X5 cI m0 m1 m2 m3 m4 m5 m6 m7 m8 m9 m10 m11 mr mc me mw j1 mn mu ms mt md mz mi mk mo mj ml) H → va_D A (W_X5 cI m0 m1 m2 m3 m4 m5 m6 m7 m8 m9 m10 m11 mr mc me mw j1 mn mu ms mt md mz mi mk mo mj ml) → va_S A s.heap H locs → ∀ ls : Array Slot, lv_has ls 3 [] → W p l e (headSpec wsX5_goes rm_X5_goes).room s m ([.ref m0, .int a1, .int a2] : List Value).toArray below meth c H locs 0 0 (MQ below (Q_X5_goes D cI m0 m1 m2 m3 m4 m5 m6 m7 m8 m9 m10 m11 mr mc me mw mh mn mu ms mt md mz mi mk mo mj ml a1 a2 A) ([.ref m0, .int a1, .int a2] : List Value).toArray s 0 0 A) (F0 m 33 ls [.int j4]) := by
      intro hb4 H locs hP hD hS ls hl
      exact W.zret (ty := .boolean) (v := j4) hx hb hr (by rcases hb4 with h9 | h9 <;> rw [h9] <;> rfl) (fun t ht hW => ⟨⟨j4, j1, rfl, ⟨he, hb4⟩, by rw [ht]; exact hP, va_K.moved hW.alike hK, hD⟩, hS.F ht⟩) hS.2.2 dX5_goes_33
    replace he := hJ4
    refine lv_if_ne (tgt := 32) hx hb dX5_goes_25 (by decide) (fun c5 => ?_) (fun c5 => ?_)
    · replace he := he.trans (if_neg c5)
      refine lv_iconst (v := 0) hx hb dX5_goes_32 (by decide) ?_
      subst he
      exact kont4 (Or.inl rfl) _ _ hP hD hS _ (lv_sub hl [] rfl)
    · replace he := he.trans (if_pos c5)
      refine lv_iconst (v := 1) hx hb dX5_goes_28 (by decide) ?_
      refine lv_goto (tgt := 33) hx hb dX5_goes_29 (by decide) ?_
      subst he
      exact kont4 (Or.inr rfl) _ _ hP hD hS _ (lv_sub hl [] rfl)
  replace he := hJ1
  refine lv_if_ne (tgt := 9) hx hb dX5_goes_2 (by decide) (fun c2 => ?_) (fun c2 => ?_)
  · replace he := he.trans (if_neg c2)
    refine lv_iload_n hx hb dX5_goes_9 rfl (lv_at hl 2 rfl) ?_
    refine lv_if_ne (tgt := 17) hx hb dX5_goes_10 (by decide) (fun c3 => ?_) (fun c3 => ?_)
    · replace he := he.trans (if_neg c3)
      refine lv_iconst (v := 0) hx hb dX5_goes_17 (by decide) ?_
      subst he
      exact kont1 _ _ hP hD hS _ (lv_sub hl [0] rfl)
    · replace he := he.trans (if_pos c3)
      refine lv_iconst (v := 2) hx hb dX5_goes_13 (by decide) ?_
      refine lv_goto (tgt := 18) hx hb dX5_goes_14 (by decide) ?_
      subst he
      exact kont1 _ _ hP hD hS _ (lv_sub hl [0] rfl)
  · replace he := he.trans (if_pos c2)
    refine lv_iconst (v := 1) hx hb dX5_goes_5 (by decide) ?_
    refine lv_goto (tgt := 18) hx hb dX5_goes_6 (by decide) ?_
    subst he
    exact kont1 _ _ hP hD hS _ (lv_sub hl [0] rfl)
abbrev rm_X5_isNode : Room := { frames := 0, cells := 0, slots := 0, locals := 0 }
abbrev Q_X5_isNode (D : va_G) (cI : ClassId) (a0 : Int32) (A : Nat → Prop) : Array Value → State → Outcome → State → Prop := va_Qi (S := Unit) (fun r u => f_X5_isNode a0 = r ∧ (r = 0 ∨ r = 1)) (fun u t => QW D [(cI, .int)] A ([] : va_W) t) A
set_option maxHeartbeats 4000000 in
set_option maxRecDepth 100000 in
theorem c_X5_isNode (l : Launch)  (D : va_G) (cI : ClassId) (sz : Nat) (a0 : Int32) : Met l yX5_isNode wsX5_isNode rm_X5_isNode (va_Pc [.int a0] (PW D [(cI, .int)] sz ([] : va_W))) (Q_X5_isNode D cI a0 (va_A ([] : va_W) sz)) 0 0 (va_A ([] : va_W) sz) := by
  refine Met.ofW (cc := cX5_isNode) (maxL := 1) (ret := (some .boolean)) (by decide) rfl ?_
  intro p e s m args below meth c s₁ B hml hv
  obtain ⟨rfl, hsz, hP, hK, hD0, hN⟩ := hv
  have hx := B.exec
  have hb := B.bytes
  have hr := B.returns
  have hts := atoms_spec (ws := wsX5_isNode) B.pre
  have hown : s.vm.findClass RX5 = some m.cls := findClass_of_methodNamed B.named
  have hlocks := B.notSynchronized
  subst hsz
  have hD := hD0.self (sz := s.heap.size)
  generalize hAe : va_A ([] : va_W) s.heap.size = A at hD ⊢
  have hA : ∀ q : Nat, s.heap.size ≤ q → A q := fun q h => by rw [← hAe]; exact Or.inr h
  have hS : va_S A s.heap s.heap [] := va_S.rf
  have hl := lv_entry ([.int a0]) (n := 1) (Nat.le_of_ble_eq_true rfl)
  rw [lg_entry_eq]
  generalize (lg_sl ([.int a0]) ++ List.replicate (1 - (lg_sl ([.int a0])).length) Slot.unset).toArray = ls at hl ⊢
  have hl : lv_has ls 1 [(0, .int a0)] := hl
  have he := f_X5_isNode.eq_1 a0
  refine lv_iload_n hx hb dX5_isNode_0 rfl (lv_at hl 0 rfl) ?_
  obtain ⟨j1, hJ1⟩ : ∃ z : Int32, z = (if a0 < 0 then (0 : Int32) else (if 14 ≤ a0 then (0 : Int32) else (1 : Int32))) := ⟨_, rfl⟩
  rw [← hJ1] at he
  try dsimp only at he
  have kont1 : (j1 = 0 ∨ j1 = 1) → ∀ (H : Heap) (locs : List Loc), va_P D vwCl ([] : va_W) H → va_D A ([] : va_W) → va_S A s.heap H locs → ∀ ls : Array Slot, lv_has ls 1 [] → W p l e (headSpec wsX5_isNode rm_X5_isNode).room s m ([.int a0] : List Value).toArray below meth c H locs 0 0 (MQ below (Q_X5_isNode D cI a0 A) ([.int a0] : List Value).toArray s 0 0 A) (F0 m 15 ls [.int j1]) := by
    intro hb1 H locs hP hD hS ls hl
    exact W.zret (ty := .boolean) (v := j1) hx hb hr (by rcases hb1 with h9 | h9 <;> rw [h9] <;> rfl) (fun t ht hW => ⟨⟨j1, (), rfl, ⟨he, hb1⟩, by rw [ht]; exact hP, va_K.moved hW.alike hK, hD⟩, hS.F ht⟩) hS.2.2 dX5_isNode_15
  replace he := hJ1
  refine lv_if_lt (tgt := 14) hx hb dX5_isNode_1 (by decide) (fun c2 => ?_) (fun c2 => ?_)
  · replace he := he.trans (if_pos c2)
    refine lv_iconst (v := 0) hx hb dX5_isNode_14 (by decide) ?_
    subst he
    exact kont1 (Or.inl rfl) _ _ hP hD hS _ (lv_sub hl [] rfl)
  · replace he := he.trans (if_neg c2)
    refine lv_iload_n hx hb dX5_isNode_4 rfl (lv_at hl 0 rfl) ?_
    refine lv_bipush (v := 14) hx hb dX5_isNode_5 (by decide) ?_
    refine lv_icmp_ge (tgt := 14) hx hb dX5_isNode_7 (by decide) (fun c3 => ?_) (fun c3 => ?_)
    · replace he := he.trans (if_pos c3)
      refine lv_iconst (v := 0) hx hb dX5_isNode_14 (by decide) ?_
      subst he
      exact kont1 (Or.inl rfl) _ _ hP hD hS _ (lv_sub hl [] rfl)
    · replace he := he.trans (if_neg c3)
      refine lv_iconst (v := 1) hx hb dX5_isNode_10 (by decide) ?_
      refine lv_goto (tgt := 15) hx hb dX5_isNode_11 (by decide) ?_
      subst he
      exact kont1 (Or.inr rfl) _ _ hP hD hS _ (lv_sub hl [] rfl)
abbrev rm_X5_has : Room := { frames := 0, cells := 0, slots := 0, locals := 0 }
abbrev Q_X5_has (D : va_G) (cI : ClassId) (a0 a1 : Int32) (A : Nat → Prop) : Array Value → State → Outcome → State → Prop := va_Qi (S := Unit) (fun r u => f_X5_has a0 a1 = r ∧ (r = 0 ∨ r = 1)) (fun u t => QW D [(cI, .int)] A ([] : va_W) t) A
set_option maxHeartbeats 4000000 in
set_option maxRecDepth 100000 in
theorem c_X5_has (l : Launch)  (D : va_G) (cI : ClassId) (sz : Nat) (a0 a1 : Int32) : Met l yX5_has wsX5_has rm_X5_has (va_Pc [.int a0, .int a1] (PW D [(cI, .int)] sz ([] : va_W))) (Q_X5_has D cI a0 a1 (va_A ([] : va_W) sz)) 0 0 (va_A ([] : va_W) sz) := by
  refine Met.ofW (cc := cX5_has) (maxL := 2) (ret := (some .boolean)) (by decide) rfl ?_
  intro p e s m args below meth c s₁ B hml hv
  obtain ⟨rfl, hsz, hP, hK, hD0, hN⟩ := hv
  have hx := B.exec
  have hb := B.bytes
  have hr := B.returns
  have hts := atoms_spec (ws := wsX5_has) B.pre
  have hown : s.vm.findClass RX5 = some m.cls := findClass_of_methodNamed B.named
  have hlocks := B.notSynchronized
  subst hsz
  have hD := hD0.self (sz := s.heap.size)
  generalize hAe : va_A ([] : va_W) s.heap.size = A at hD ⊢
  have hA : ∀ q : Nat, s.heap.size ≤ q → A q := fun q h => by rw [← hAe]; exact Or.inr h
  have hS : va_S A s.heap s.heap [] := va_S.rf
  have hl := lv_entry ([.int a0, .int a1]) (n := 2) (Nat.le_of_ble_eq_true rfl)
  rw [lg_entry_eq]
  generalize (lg_sl ([.int a0, .int a1]) ++ List.replicate (2 - (lg_sl ([.int a0, .int a1])).length) Slot.unset).toArray = ls at hl ⊢
  have hl : lv_has ls 2 [(0, .int a0), (1, .int a1)] := hl
  have he := f_X5_has.eq_1 a0 a1
  refine lv_iload_n hx hb dX5_has_0 rfl (lv_at hl 0 rfl) ?_
  refine lv_iload_n hx hb dX5_has_1 rfl (lv_at hl 1 rfl) ?_
  refine lv_ishr hx hb dX5_has_2 ?_
  refine lv_iconst (v := 1) hx hb dX5_has_3 (by decide) ?_
  refine lv_iand hx hb dX5_has_4 ?_
  refine lv_iconst (v := 1) hx hb dX5_has_5 (by decide) ?_
  obtain ⟨j1, hJ1⟩ : ∃ z : Int32, z = (if ((a0 >>> (a1 &&& 31)) &&& 1) = 1 then (1 : Int32) else (0 : Int32)) := ⟨_, rfl⟩
  rw [← hJ1] at he
  try dsimp only at he
  have kont1 : (j1 = 0 ∨ j1 = 1) → ∀ (H : Heap) (locs : List Loc), va_P D vwCl ([] : va_W) H → va_D A ([] : va_W) → va_S A s.heap H locs → ∀ ls : Array Slot, lv_has ls 2 [] → W p l e (headSpec wsX5_has rm_X5_has).room s m ([.int a0, .int a1] : List Value).toArray below meth c H locs 0 0 (MQ below (Q_X5_has D cI a0 a1 A) ([.int a0, .int a1] : List Value).toArray s 0 0 A) (F0 m 14 ls [.int j1]) := by
    intro hb1 H locs hP hD hS ls hl
    exact W.zret (ty := .boolean) (v := j1) hx hb hr (by rcases hb1 with h9 | h9 <;> rw [h9] <;> rfl) (fun t ht hW => ⟨⟨j1, (), rfl, ⟨he, hb1⟩, by rw [ht]; exact hP, va_K.moved hW.alike hK, hD⟩, hS.F ht⟩) hS.2.2 dX5_has_14
  replace he := hJ1
  refine lv_icmp_ne (tgt := 13) hx hb dX5_has_6 (by decide) (fun c2 => ?_) (fun c2 => ?_)
  · replace he := he.trans (if_neg c2)
    refine lv_iconst (v := 0) hx hb dX5_has_13 (by decide) ?_
    subst he
    exact kont1 (Or.inl rfl) _ _ hP hD hS _ (lv_sub hl [] rfl)
  · replace he := he.trans (if_pos c2)
    refine lv_iconst (v := 1) hx hb dX5_has_9 (by decide) ?_
    refine lv_goto (tgt := 14) hx hb dX5_has_10 (by decide) ?_
    subst he
    exact kont1 (Or.inr rfl) _ _ hP hD hS _ (lv_sub hl [] rfl)
abbrev rm_X5_count : Room := { frames := 0, cells := 0, slots := 0, locals := 0 }
abbrev Q_X5_count (D : va_G) (cI : ClassId) (a0 : Int32) (A : Nat → Prop) : Array Value → State → Outcome → State → Prop := va_Qi (S := Unit) (fun r u => f_X5_count a0 = r) (fun u t => QW D [(cI, .int)] A ([] : va_W) t) A
set_option maxHeartbeats 4000000 in
set_option maxRecDepth 100000 in
theorem c_X5_count (l : Launch)  (D : va_G) (cI : ClassId) (sz : Nat) (a0 : Int32) (hp : p_X5_count a0) : Met l yX5_count wsX5_count rm_X5_count (va_Pc [.int a0] (PW D [(cI, .int)] sz ([] : va_W))) (Q_X5_count D cI a0 (va_A ([] : va_W) sz)) 0 0 (va_A ([] : va_W) sz) := by
  refine Met.ofW (cc := cX5_count) (maxL := 3) (ret := (some .int)) (by decide) rfl ?_
  intro p e s m args below meth c s₁ B hml hv
  obtain ⟨rfl, hsz, hP, hK, hD0, hN⟩ := hv
  have hx := B.exec
  have hb := B.bytes
  have hr := B.returns
  have hts := atoms_spec (ws := wsX5_count) B.pre
  have hown : s.vm.findClass RX5 = some m.cls := findClass_of_methodNamed B.named
  have hlocks := B.notSynchronized
  subst hsz
  have hD := hD0.self (sz := s.heap.size)
  generalize hAe : va_A ([] : va_W) s.heap.size = A at hD ⊢
  have hA : ∀ q : Nat, s.heap.size ≤ q → A q := fun q h => by rw [← hAe]; exact Or.inr h
  have hS : va_S A s.heap s.heap [] := va_S.rf
  have hl := lv_entry ([.int a0]) (n := 3) (Nat.le_of_ble_eq_true rfl)
  rw [lg_entry_eq]
  generalize (lg_sl ([.int a0]) ++ List.replicate (3 - (lg_sl ([.int a0])).length) Slot.unset).toArray = ls at hl ⊢
  have hl : lv_has ls 3 [(0, .int a0)] := hl
  have he := f_X5_count.eq_1 a0
  replace hp := Eq.mp (p_X5_count.eq_1 ..) hp
  refine lv_iconst (v := 0) hx hb dX5_count_0 (by decide) ?_
  refine lv_istore_n (lv' := [(1, .int 0), (0, .int a0)]) hx hb dX5_count_1 rfl hl (by decide) rfl (fun ls hl => ?_)
  refine lv_iconst (v := 0) hx hb dX5_count_2 (by decide) ?_
  refine lv_istore_n (lv' := [(2, .int 0), (1, .int 0), (0, .int a0)]) hx hb dX5_count_3 rfl hl (by decide) rfl (fun ls hl => ?_)
  obtain ⟨⟨r1_v4_1, r1_v4_2⟩, hL1⟩ : ∃ z, z = f_X5_count_L4 a0 15 (0 : Int32) (0 : Int32) := ⟨_, rfl⟩
  rw [← hL1] at he
  try dsimp only at he
  have hpL1 := hp.1
  replace hp := hp.2 _ _ hL1.symm
  have kont1 : ∀ (x1_v4_1 : Int32) (x1_v4_2 : Int32), (r1_v4_1, r1_v4_2) = (x1_v4_1, x1_v4_2) → ∀ (H : Heap) (locs : List Loc), va_P D vwCl ([] : va_W) H → va_D A ([] : va_W) → va_S A s.heap H locs → ∀ ls : Array Slot, lv_has ls 3 [(1, .int x1_v4_1)] → W p l e (headSpec wsX5_count rm_X5_count).room s m ([.int a0] : List Value).toArray below meth c H locs 0 0 (MQ below (Q_X5_count D cI a0 A) ([.int a0] : List Value).toArray s 0 0 A) (F0 m 24 ls []) := by
    intro x1_v4_1 x1_v4_2 hxe H locs hP hD hS ls hl
    simp only [Prod.mk.injEq] at hxe
    obtain ⟨rfl, rfl⟩ := hxe
    refine lv_iload_n hx hb dX5_count_24 rfl (lv_at hl 0 rfl) ?_
    exact W.iret (v := r1_v4_1) hx hb hr (fun t ht hW => ⟨⟨r1_v4_1, (), rfl, he, by rw [ht]; exact hP, va_K.moved hW.alike hK, hD⟩, hS.F ht⟩) hS.2.2 dX5_count_25
  have loop1 : ∀ (n : Nat) (v4_1 : Int32) (v4_2 : Int32), p_X5_count_L4 a0 n v4_1 v4_2 → (r1_v4_1, r1_v4_2) = f_X5_count_L4 a0 n v4_1 v4_2 → ∀ (H : Heap) (locs : List Loc), va_P D vwCl ([] : va_W) H → va_D A ([] : va_W) → va_S A s.heap H locs → ∀ ls : Array Slot, lv_has ls 3 [(2, .int v4_2), (1, .int v4_1), (0, .int a0)] → W p l e (headSpec wsX5_count rm_X5_count).room s m ([.int a0] : List Value).toArray below meth c H locs 0 0 (MQ below (Q_X5_count D cI a0 A) ([.int a0] : List Value).toArray s 0 0 A) (F0 m 4 ls []) := by
    intro n
    induction n with
    | zero => exact fun _ _ hp => hp.elim
    | succ n ih =>
      intro v4_1 v4_2 hp he H locs hP hD hS ls hl
      replace hp := Eq.mp (p_X5_count_L4.eq_2 ..) hp
      replace he := he.trans (f_X5_count_L4.eq_2 ..)
      refine lv_iload_n hx hb dX5_count_4 rfl (lv_at hl 0 rfl) ?_
      refine lv_bipush (v := 14) hx hb dX5_count_5 (by decide) ?_
      refine lv_icmp_ge (tgt := 24) hx hb dX5_count_7 (by decide) (fun c2 => ?_) (fun c2 => ?_)
      · replace hp := hp.1 c2
        replace he := he.trans (if_pos c2)
        exact kont1 _ _ he _ _ hP hD hS _ (lv_sub hl [1] rfl)
      · replace hp := hp.2 c2
        replace he := he.trans (if_neg c2)
        refine lv_iload_n hx hb dX5_count_10 rfl (lv_at hl 1 rfl) ?_
        refine lv_iload_n hx hb dX5_count_11 rfl (lv_at hl 2 rfl) ?_
        refine lv_iload_n hx hb dX5_count_12 rfl (lv_at hl 0 rfl) ?_
        refine lv_ishr hx hb dX5_count_13 ?_
        refine lv_iconst (v := 1) hx hb dX5_count_14 (by decide) ?_
        refine lv_iand hx hb dX5_count_15 ?_
        refine lv_iadd hx hb dX5_count_16 ?_
        refine lv_istore_n (lv' := [(1, .int (v4_1 + ((a0 >>> (v4_2 &&& 31)) &&& 1))), (2, .int v4_2), (0, .int a0)]) hx hb dX5_count_17 rfl hl (by decide) rfl (fun ls hl => ?_)
        refine lv_iinc (v := (v4_2 + 1)) (lv' := [(2, .int (v4_2 + 1)), (1, .int (v4_1 + ((a0 >>> (v4_2 &&& 31)) &&& 1))), (0, .int a0)]) hx hb dX5_count_18 hl (k := 1) rfl rfl (by decide) rfl (fun ls hl => ?_)
        refine lv_goto (tgt := 4) hx hb dX5_count_21 (by decide) ?_
        exact ih _ _ hp he _ _ hP hD hS _ (lv_sub hl [0, 1, 2] rfl)
  exact loop1 15 (0 : Int32) (0 : Int32) hpL1 hL1 _ _ hP hD hS _ (lv_sub hl [0, 1, 2] rfl)
abbrev rm_X5_at : Room := { frames := 1, cells := 0, slots := 0, locals := 21 }
abbrev Q_X5_at (D : va_G) (cI : ClassId) (a0 a1 : Int32) (A : Nat → Prop) : Array Value → State → Outcome → State → Prop := va_Qi (S := Unit) (fun r u => f_X5_at a0 a1 = r) (fun u t => QW D [(cI, .int)] A ([] : va_W) t) A
set_option maxHeartbeats 4000000 in
set_option maxRecDepth 100000 in
theorem c_X5_at (l : Launch)  (D : va_G) (cI : ClassId) (sz : Nat) (a0 a1 : Int32) (hp : p_X5_at a0 a1) : Met l yX5_at wsX5_at rm_X5_at (va_Pc [.int a0, .int a1] (PW D [(cI, .int)] sz ([] : va_W))) (Q_X5_at D cI a0 a1 (va_A ([] : va_W) sz)) 0 0 (va_A ([] : va_W) sz) := by
  refine Met.ofW (cc := cX5_at) (maxL := 5) (ret := (some .int)) (by decide) rfl ?_
  intro p e s m args below meth c s₁ B hml hv
  obtain ⟨rfl, hsz, hP, hK, hD0, hN⟩ := hv
  have hx := B.exec
  have hb := B.bytes
  have hr := B.returns
  have hts := atoms_spec (ws := wsX5_at) B.pre
  have hown : s.vm.findClass RX5 = some m.cls := findClass_of_methodNamed B.named
  have hlocks := B.notSynchronized
  subst hsz
  have hD := hD0.self (sz := s.heap.size)
  generalize hAe : va_A ([] : va_W) s.heap.size = A at hD ⊢
  have hA : ∀ q : Nat, s.heap.size ≤ q → A q := fun q h => by rw [← hAe]; exact Or.inr h
  have hS : va_S A s.heap s.heap [] := va_S.rf
  have hl := lv_entry ([.int a0, .int a1]) (n := 5) (Nat.le_of_ble_eq_true rfl)
  rw [lg_entry_eq]
  generalize (lg_sl ([.int a0, .int a1]) ++ List.replicate (5 - (lg_sl ([.int a0, .int a1])).length) Slot.unset).toArray = ls at hl ⊢
  have hl : lv_has ls 5 [(0, .int a0), (1, .int a1)] := hl
  have he := f_X5_at.eq_1 a0 a1
  replace hp := Eq.mp (p_X5_at.eq_1 ..) hp
  refine lv_iload_n hx hb dX5_at_0 rfl (lv_at hl 1 rfl) ?_
  refine lv_istore_n (lv' := [(2, .int a1), (0, .int a0), (1, .int a1)]) hx hb dX5_at_1 rfl hl (by decide) rfl (fun ls hl => ?_)
  refine lv_iconst (v := (-1)) hx hb dX5_at_2 (by decide) ?_
  refine lv_istore_n (lv' := [(3, .int (-1)), (2, .int a1), (0, .int a0), (1, .int a1)]) hx hb dX5_at_3 rfl hl (by decide) rfl (fun ls hl => ?_)
  refine lv_iconst (v := 0) hx hb dX5_at_4 (by decide) ?_
  refine lv_istore (lv' := [(4, .int 0), (3, .int (-1)), (2, .int a1), (0, .int a0), (1, .int a1)]) hx hb dX5_at_5 hl (by decide) rfl (fun ls hl => ?_)
  obtain ⟨⟨r1_v7_2, r1_v7_3, r1_v7_4⟩, hL1⟩ : ∃ z, z = f_X5_at_L7 a0 15 a1 ((-1) : Int32) (0 : Int32) := ⟨_, rfl⟩
  rw [← hL1] at he
  try dsimp only at he
  have hpL1 := hp.1
  replace hp := hp.2 _ _ _ hL1.symm
  have kont1 : ∀ (x1_v7_2 : Int32) (x1_v7_3 : Int32) (x1_v7_4 : Int32), (r1_v7_2, r1_v7_3, r1_v7_4) = (x1_v7_2, x1_v7_3, x1_v7_4) → ∀ (H : Heap) (locs : List Loc), va_P D vwCl ([] : va_W) H → va_D A ([] : va_W) → va_S A s.heap H locs → ∀ ls : Array Slot, lv_has ls 5 [(3, .int x1_v7_3)] → W p l e (headSpec wsX5_at rm_X5_at).room s m ([.int a0, .int a1] : List Value).toArray below meth c H locs 0 0 (MQ below (Q_X5_at D cI a0 a1 A) ([.int a0, .int a1] : List Value).toArray s 0 0 A) (F0 m 57 ls []) := by
    intro x1_v7_2 x1_v7_3 x1_v7_4 hxe H locs hP hD hS ls hl
    simp only [Prod.mk.injEq] at hxe
    obtain ⟨rfl, rfl, rfl⟩ := hxe
    refine lv_iload_n hx hb dX5_at_57 rfl (lv_at hl 0 rfl) ?_
    exact W.iret (v := r1_v7_3) hx hb hr (fun t ht hW => ⟨⟨r1_v7_3, (), rfl, he, by rw [ht]; exact hP, va_K.moved hW.alike hK, hD⟩, hS.F ht⟩) hS.2.2 dX5_at_58
  have loop1 : ∀ (n : Nat) (v7_2 : Int32) (v7_3 : Int32) (v7_4 : Int32), p_X5_at_L7 a0 n v7_2 v7_3 v7_4 → (r1_v7_2, r1_v7_3, r1_v7_4) = f_X5_at_L7 a0 n v7_2 v7_3 v7_4 → ∀ (H : Heap) (locs : List Loc), va_P D vwCl ([] : va_W) H → va_D A ([] : va_W) → va_S A s.heap H locs → ∀ ls : Array Slot, lv_has ls 5 [(4, .int v7_4), (3, .int v7_3), (2, .int v7_2), (0, .int a0)] → W p l e (headSpec wsX5_at rm_X5_at).room s m ([.int a0, .int a1] : List Value).toArray below meth c H locs 0 0 (MQ below (Q_X5_at D cI a0 a1 A) ([.int a0, .int a1] : List Value).toArray s 0 0 A) (F0 m 7 ls []) := by
    intro n
    induction n with
    | zero => exact fun _ _ _ hp => hp.elim
    | succ n ih =>
      intro v7_2 v7_3 v7_4 hp he H locs hP hD hS ls hl
      replace hp := Eq.mp (p_X5_at_L7.eq_2 ..) hp
      replace he := he.trans (f_X5_at_L7.eq_2 ..)
      refine lv_iload hx hb dX5_at_7 (lv_at hl 0 rfl) ?_
      refine lv_bipush (v := 14) hx hb dX5_at_9 (by decide) ?_
      refine lv_icmp_ge (tgt := 57) hx hb dX5_at_11 (by decide) (fun c2 => ?_) (fun c2 => ?_)
      · replace hp := hp.1 c2
        replace he := he.trans (if_pos c2)
        exact kont1 _ _ _ he _ _ hP hD hS _ (lv_sub hl [1] rfl)
      · replace hp := hp.2 c2
        replace he := he.trans (if_neg c2)
        refine lv_iload_n hx hb dX5_at_14 rfl (lv_at hl 3 rfl) ?_
        refine lv_iload hx hb dX5_at_15 (lv_at hl 0 rfl) ?_
        refine k_calli (S := Unit) (wc := ([] : va_W)) (wr := ([] : va_W)) (w1 := fun u => ([] : va_W)) (fun u => ([] : va_W)) hP hK hD hN hS hA [] [] rfl rfl (by decide) (by decide) (by decide) [] (by decide) (fun _ => rfl) (fun hg => va_runS (As := [.int a0, .int v7_4]) (rest := []) ⟨hx, hb, hml, hown, hts⟩ (c_X5_has l D cI _ a0 v7_4) (va_cwS 2 hts gX5_at_X5_has rfl rfl rfl (by decide +kernel) ⟨Nat.le_of_ble_eq_true rfl, Nat.le_of_ble_eq_true rfl⟩) ⟨PW.blind, fun U hU hW => ⟨rfl, hg U hU hW⟩⟩ rfl rfl hl.1 rfl (lv_room (Nat.le_of_ble_eq_true rfl)) dX5_at_17 ⟨Nat.le_of_ble_eq_true rfl, Nat.le_of_ble_eq_true rfl⟩) (fun r3 u H locs hw hP hD hS => ?_)
        obtain ⟨hw, hb3⟩ := hw
        subst hw
        obtain ⟨j4, hJ4⟩ : ∃ z : Int32, z = (if (f_X5_has a0 v7_4) = 0 then v7_3 else (if v7_2 = 0 then v7_4 else v7_3)) := ⟨_, rfl⟩
        rw [← hJ4] at he
        try dsimp only at he
        have hpJ4 := hp.1
        replace hp := hp.2 _  hJ4.symm
        have kont4 : ∀ (H : Heap) (locs : List Loc), va_P D vwCl ([] : va_W) H → va_D A ([] : va_W) → va_S A s.heap H locs → ∀ ls : Array Slot, lv_has ls 5 [(4, .int v7_4), (2, .int v7_2), (0, .int a0)] → W p l e (headSpec wsX5_at rm_X5_at).room s m ([.int a0, .int a1] : List Value).toArray below meth c H locs 0 0 (MQ below (Q_X5_at D cI a0 a1 A) ([.int a0, .int a1] : List Value).toArray s 0 0 A) (F0 m 33 ls [.int j4]) := by
          intro H locs hP hD hS ls hl
          refine lv_istore_n (lv' := [(3, .int j4), (4, .int v7_4), (2, .int v7_2), (0, .int a0)]) hx hb dX5_at_33 rfl hl (by decide) rfl (fun ls hl => ?_)
          refine lv_iload_n hx hb dX5_at_34 rfl (lv_at hl 2 rfl) ?_
          refine lv_iload_n hx hb dX5_at_35 rfl (lv_at hl 3 rfl) ?_
          refine lv_iload hx hb dX5_at_36 (lv_at hl 1 rfl) ?_
          refine k_calli (S := Unit) (wc := ([] : va_W)) (wr := ([] : va_W)) (w1 := fun u => ([] : va_W)) (fun u => ([] : va_W)) hP hK hD hN hS hA [] [] rfl rfl (by decide) (by decide) (by decide) [] (by decide) (fun _ => rfl) (fun hg => va_runS (As := [.int a0, .int v7_4]) (rest := [.int v7_2]) ⟨hx, hb, hml, hown, hts⟩ (c_X5_has l D cI _ a0 v7_4) (va_cwS 2 hts gX5_at_X5_has rfl rfl rfl (by decide +kernel) ⟨Nat.le_of_ble_eq_true rfl, Nat.le_of_ble_eq_true rfl⟩) ⟨PW.blind, fun U hU hW => ⟨rfl, hg U hU hW⟩⟩ rfl rfl hl.1 rfl (lv_room (Nat.le_of_ble_eq_true rfl)) dX5_at_38 ⟨Nat.le_of_ble_eq_true rfl, Nat.le_of_ble_eq_true rfl⟩) (fun r7 u H locs hw hP hD hS => ?_)
          obtain ⟨hw, hb7⟩ := hw
          subst hw
          obtain ⟨j8, hJ8⟩ : ∃ z : Int32, z = (if (f_X5_has a0 v7_4) = 0 then (0 : Int32) else (1 : Int32)) := ⟨_, rfl⟩
          rw [← hJ8] at he
          try dsimp only at he
          have hpJ8 := hp.1
          replace hp := hp.2 _  hJ8.symm
          have kont8 : (j8 = 0 ∨ j8 = 1) → ∀ (H : Heap) (locs : List Loc), va_P D vwCl ([] : va_W) H → va_D A ([] : va_W) → va_S A s.heap H locs → ∀ ls : Array Slot, lv_has ls 5 [(3, .int j4), (4, .int v7_4), (0, .int a0)] → W p l e (headSpec wsX5_at rm_X5_at).room s m ([.int a0, .int a1] : List Value).toArray below meth c H locs 0 0 (MQ below (Q_X5_at D cI a0 a1 A) ([.int a0, .int a1] : List Value).toArray s 0 0 A) (F0 m 49 ls [.int j8, .int v7_2]) := by
            intro hb8 H locs hP hD hS ls hl
            refine lv_isub hx hb dX5_at_49 ?_
            refine lv_istore_n (lv' := [(2, .int (v7_2 - j8)), (3, .int j4), (4, .int v7_4), (0, .int a0)]) hx hb dX5_at_50 rfl hl (by decide) rfl (fun ls hl => ?_)
            refine lv_iinc (v := (v7_4 + 1)) (lv' := [(4, .int (v7_4 + 1)), (2, .int (v7_2 - j8)), (3, .int j4), (0, .int a0)]) hx hb dX5_at_51 hl (k := 2) rfl rfl (by decide) rfl (fun ls hl => ?_)
            refine lv_goto (tgt := 7) hx hb dX5_at_54 (by decide) ?_
            exact ih _ _ _ hp he _ _ hP hD hS _ (lv_sub hl [0, 2, 1, 3] rfl)
          replace he := hJ8
          replace hp := hpJ8
          refine lv_if_eq (tgt := 48) hx hb dX5_at_41 (by decide) (fun c9 => ?_) (fun c9 => ?_)
          · replace hp := hp.1 c9
            replace he := he.trans (if_pos c9)
            refine lv_iconst (v := 0) hx hb dX5_at_48 (by decide) ?_
            subst he
            exact kont8 (Or.inl rfl) _ _ hP hD hS _ (lv_sub hl [0, 1, 3] rfl)
          · replace hp := hp.2 c9
            replace he := he.trans (if_neg c9)
            refine lv_iconst (v := 1) hx hb dX5_at_44 (by decide) ?_
            refine lv_goto (tgt := 49) hx hb dX5_at_45 (by decide) ?_
            subst he
            exact kont8 (Or.inr rfl) _ _ hP hD hS _ (lv_sub hl [0, 1, 3] rfl)
        replace he := hJ4
        replace hp := hpJ4
        refine lv_if_eq (tgt := 32) hx hb dX5_at_20 (by decide) (fun c5 => ?_) (fun c5 => ?_)
        · replace hp := hp.1 c5
          replace he := he.trans (if_pos c5)
          refine lv_iload_n hx hb dX5_at_32 rfl (lv_at hl 1 rfl) ?_
          subst he
          exact kont4 _ _ hP hD hS _ (lv_sub hl [0, 2, 3] rfl)
        · replace hp := hp.2 c5
          replace he := he.trans (if_neg c5)
          refine lv_iload_n hx hb dX5_at_23 rfl (lv_at hl 2 rfl) ?_
          refine lv_if_ne (tgt := 32) hx hb dX5_at_24 (by decide) (fun c6 => ?_) (fun c6 => ?_)
          · replace hp := hp.2 c6
            replace he := he.trans (if_neg c6)
            refine lv_iload_n hx hb dX5_at_32 rfl (lv_at hl 1 rfl) ?_
            subst he
            exact kont4 _ _ hP hD hS _ (lv_sub hl [0, 2, 3] rfl)
          · replace hp := hp.1 c6
            replace he := he.trans (if_pos c6)
            refine lv_iload hx hb dX5_at_27 (lv_at hl 0 rfl) ?_
            refine lv_goto (tgt := 33) hx hb dX5_at_29 (by decide) ?_
            subst he
            exact kont4 _ _ hP hD hS _ (lv_sub hl [0, 2, 3] rfl)
  exact loop1 15 a1 ((-1) : Int32) (0 : Int32) hpL1 hL1 _ _ hP hD hS _ (lv_sub hl [0, 1, 2, 3] rfl)
abbrev rm_X5_closes : Room := { frames := 1, cells := 0, slots := 0, locals := 21 }
abbrev Q_X5_closes (D : va_G) (cI : ClassId) (m0 m1 m2 m3 m4 m5 m6 m7 m8 m9 m10 m11 : Nat) (mr : Int32) (mc : Int32) (me : Int32) (mw : Int32) (mh : Int32) (mn : AA) (mu : AA) (ms : AA) (mt : AA) (md : AA) (mz : AA) (mi : AA) (mk : AA) (mo : AA) (mj : AA) (ml : AA) (A : Nat → Prop) : Array Value → State → Outcome → State → Prop := va_Qv (S := AA) (fun u => f_X5_closes mn mu = u) (fun u t => QW D [(cI, .int)] A (W_X5 cI m0 m1 m2 m3 m4 m5 m6 m7 m8 m9 m10 m11 mr mc me mw mh mn u ms mt md mz mi mk mo mj ml) t) A
set_option maxHeartbeats 4000000 in
set_option maxRecDepth 100000 in
theorem c_X5_closes (l : Launch)  (D : va_G) (cI : ClassId) (m0 m1 m2 m3 m4 m5 m6 m7 m8 m9 m10 m11 : Nat) (mr : Int32) (mc : Int32) (me : Int32) (mw : Int32) (mh : Int32) (mn : AA) (mu : AA) (ms : AA) (mt : AA) (md : AA) (mz : AA) (mi : AA) (mk : AA) (mo : AA) (mj : AA) (ml : AA) (sz : Nat) (hp : p_X5_closes mn mu) : Met l yX5_closes wsX5_closes rm_X5_closes (va_Pc [.ref m0] (PW D [(cI, .int)] sz (W_X5 cI m0 m1 m2 m3 m4 m5 m6 m7 m8 m9 m10 m11 mr mc me mw mh mn mu ms mt md mz mi mk mo mj ml))) (Q_X5_closes D cI m0 m1 m2 m3 m4 m5 m6 m7 m8 m9 m10 m11 mr mc me mw mh mn mu ms mt md mz mi mk mo mj ml (va_A (W_X5 cI m0 m1 m2 m3 m4 m5 m6 m7 m8 m9 m10 m11 mr mc me mw mh mn mu ms mt md mz mi mk mo mj ml) sz)) 0 0 (va_A (W_X5 cI m0 m1 m2 m3 m4 m5 m6 m7 m8 m9 m10 m11 mr mc me mw mh mn mu ms mt md mz mi mk mo mj ml) sz) := by
  refine Met.ofW (cc := cX5_closes) (maxL := 4) (ret := none) (by decide) rfl ?_
  intro p e s m args below meth c s₁ B hml hv
  obtain ⟨rfl, hsz, hP, hK, hD0, hN⟩ := hv
  have hx := B.exec
  have hb := B.bytes
  have hr := B.returns
  have hts := atoms_spec (ws := wsX5_closes) B.pre
  have hown : s.vm.findClass RX5 = some m.cls := findClass_of_methodNamed B.named
  have hlocks := B.notSynchronized
  subst hsz
  have hD := hD0.self (sz := s.heap.size)
  generalize hAe : va_A (W_X5 cI m0 m1 m2 m3 m4 m5 m6 m7 m8 m9 m10 m11 mr mc me mw mh mn mu ms mt md mz mi mk mo mj ml) s.heap.size = A at hD ⊢
  have hA : ∀ q : Nat, s.heap.size ≤ q → A q := fun q h => by rw [← hAe]; exact Or.inr h
  have hS : va_S A s.heap s.heap [] := va_S.rf
  have hl := lv_entry ([.ref m0]) (n := 4) (Nat.le_of_ble_eq_true rfl)
  rw [lg_entry_eq]
  generalize (lg_sl ([.ref m0]) ++ List.replicate (4 - (lg_sl ([.ref m0])).length) Slot.unset).toArray = ls at hl ⊢
  have hl : lv_has ls 4 [(0, .ref m0)] := hl
  have he := f_X5_closes.eq_1 mn mu
  replace hp := Eq.mp (p_X5_closes.eq_1 ..) hp
  refine lv_iconst (v := 0) hx hb dX5_closes_0 (by decide) ?_
  refine lv_istore_n (lv' := [(1, .int 0), (0, .ref m0)]) hx hb dX5_closes_1 rfl hl (by decide) rfl (fun ls hl => ?_)
  obtain ⟨⟨r1_v2_1, r1_mu_2⟩, hL1⟩ : ∃ z, z = f_X5_closes_L2 mn 15 (0 : Int32) mu := ⟨_, rfl⟩
  rw [← hL1] at he
  try dsimp only at he
  have hpL1 := hp.1
  replace hp := hp.2 _ _ hL1.symm
  have kont1 : ∀ (x1_v2_1 : Int32) (x1_mu_2 : AA), (r1_v2_1, r1_mu_2) = (x1_v2_1, x1_mu_2) → ∀ (H : Heap) (locs : List Loc), va_P D vwCl (W_X5 cI m0 m1 m2 m3 m4 m5 m6 m7 m8 m9 m10 m11 mr mc me mw mh mn x1_mu_2 ms mt md mz mi mk mo mj ml) H → va_D A (W_X5 cI m0 m1 m2 m3 m4 m5 m6 m7 m8 m9 m10 m11 mr mc me mw mh mn x1_mu_2 ms mt md mz mi mk mo mj ml) → va_S A s.heap H locs → ∀ ls : Array Slot, lv_has ls 4 [(0, .ref m0)] → W p l e (headSpec wsX5_closes rm_X5_closes).room s m ([.ref m0] : List Value).toArray below meth c H locs 0 0 (MQ below (Q_X5_closes D cI m0 m1 m2 m3 m4 m5 m6 m7 m8 m9 m10 m11 mr mc me mw mh mn mu ms mt md mz mi mk mo mj ml A) ([.ref m0] : List Value).toArray s 0 0 A) (F0 m 26 ls []) := by
    intro x1_v2_1 x1_mu_2 hxe H locs hP hD hS ls hl
    simp only [Prod.mk.injEq] at hxe
    obtain ⟨rfl, rfl⟩ := hxe
    refine lv_iconst (v := 0) hx hb dX5_closes_26 (by decide) ?_
    refine lv_istore_n (lv' := [(1, .int 0), (0, .ref m0)]) hx hb dX5_closes_27 rfl hl (by decide) rfl (fun ls hl => ?_)
    obtain ⟨⟨r5_v28_1, r5_mu_28⟩, hL5⟩ : ∃ z, z = f_X5_closes_L28 15 (0 : Int32) r1_mu_2 := ⟨_, rfl⟩
    rw [← hL5] at he
    try dsimp only at he
    have hpL5 := hp.1
    replace hp := hp.2 _ _ hL5.symm
    have kont5 : ∀ (x5_v28_1 : Int32) (x5_mu_28 : AA), (r5_v28_1, r5_mu_28) = (x5_v28_1, x5_mu_28) → ∀ (H : Heap) (locs : List Loc), va_P D vwCl (W_X5 cI m0 m1 m2 m3 m4 m5 m6 m7 m8 m9 m10 m11 mr mc me mw mh mn x5_mu_28 ms mt md mz mi mk mo mj ml) H → va_D A (W_X5 cI m0 m1 m2 m3 m4 m5 m6 m7 m8 m9 m10 m11 mr mc me mw mh mn x5_mu_28 ms mt md mz mi mk mo mj ml) → va_S A s.heap H locs → ∀ ls : Array Slot, lv_has ls 4 [] → W p l e (headSpec wsX5_closes rm_X5_closes).room s m ([.ref m0] : List Value).toArray below meth c H locs 0 0 (MQ below (Q_X5_closes D cI m0 m1 m2 m3 m4 m5 m6 m7 m8 m9 m10 m11 mr mc me mw mh mn mu ms mt md mz mi mk mo mj ml A) ([.ref m0] : List Value).toArray s 0 0 A) (F0 m 100 ls []) := by
      intro x5_v28_1 x5_mu_28 hxe H locs hP hD hS ls hl
      simp only [Prod.mk.injEq] at hxe
      obtain ⟨rfl, rfl⟩ := hxe
      exact W.vret hx hb hr (fun t ht hW => ⟨⟨r5_mu_28, rfl, he, by rw [ht]; exact hP, va_K.moved hW.alike hK, hD⟩, hS.F ht⟩) hS.2.2 dX5_closes_100
    have loop5 : ∀ (n : Nat) (v28_1 : Int32) (mu_28 : AA), p_X5_closes_L28 n v28_1 mu_28 → (r5_v28_1, r5_mu_28) = f_X5_closes_L28 n v28_1 mu_28 → ∀ (H : Heap) (locs : List Loc), va_P D vwCl (W_X5 cI m0 m1 m2 m3 m4 m5 m6 m7 m8 m9 m10 m11 mr mc me mw mh mn mu_28 ms mt md mz mi mk mo mj ml) H → va_D A (W_X5 cI m0 m1 m2 m3 m4 m5 m6 m7 m8 m9 m10 m11 mr mc me mw mh mn mu_28 ms mt md mz mi mk mo mj ml) → va_S A s.heap H locs → ∀ ls : Array Slot, lv_has ls 4 [(1, .int v28_1), (0, .ref m0)] → W p l e (headSpec wsX5_closes rm_X5_closes).room s m ([.ref m0] : List Value).toArray below meth c H locs 0 0 (MQ below (Q_X5_closes D cI m0 m1 m2 m3 m4 m5 m6 m7 m8 m9 m10 m11 mr mc me mw mh mn mu ms mt md mz mi mk mo mj ml A) ([.ref m0] : List Value).toArray s 0 0 A) (F0 m 28 ls []) := by
      intro n
      induction n with
      | zero => exact fun _ _ hp => hp.elim
      | succ n ih =>
        intro v28_1 mu_28 hp he H locs hP hD hS ls hl
        replace hp := Eq.mp (p_X5_closes_L28.eq_2 ..) hp
        replace he := he.trans (f_X5_closes_L28.eq_2 ..)
        refine lv_iload_n hx hb dX5_closes_28 rfl (lv_at hl 0 rfl) ?_
        refine lv_bipush (v := 14) hx hb dX5_closes_29 (by decide) ?_
        refine lv_icmp_ge (tgt := 100) hx hb dX5_closes_31 (by decide) (fun c6 => ?_) (fun c6 => ?_)
        · replace hp := hp.1 c6
          replace he := he.trans (if_pos c6)
          exact kont5 _ _ he _ _ hP hD hS _ (lv_sub hl [] rfl)
        · replace hp := hp.2 c6
          replace he := he.trans (if_neg c6)
          refine lv_iconst (v := 0) hx hb dX5_closes_34 (by decide) ?_
          refine lv_istore_n (lv' := [(2, .int 0), (1, .int v28_1), (0, .ref m0)]) hx hb dX5_closes_35 rfl hl (by decide) rfl (fun ls hl => ?_)
          obtain ⟨⟨r7_v36_2, r7_mu_36⟩, hL7⟩ : ∃ z, z = f_X5_closes_L36 15 (0 : Int32) mu_28 := ⟨_, rfl⟩
          rw [← hL7] at he
          try dsimp only at he
          have hpL7 := hp.1
          replace hp := hp.2 _ _ hL7.symm
          have kont7 : ∀ (x7_v36_2 : Int32) (x7_mu_36 : AA), (r7_v36_2, r7_mu_36) = (x7_v36_2, x7_mu_36) → ∀ (H : Heap) (locs : List Loc), va_P D vwCl (W_X5 cI m0 m1 m2 m3 m4 m5 m6 m7 m8 m9 m10 m11 mr mc me mw mh mn x7_mu_36 ms mt md mz mi mk mo mj ml) H → va_D A (W_X5 cI m0 m1 m2 m3 m4 m5 m6 m7 m8 m9 m10 m11 mr mc me mw mh mn x7_mu_36 ms mt md mz mi mk mo mj ml) → va_S A s.heap H locs → ∀ ls : Array Slot, lv_has ls 4 [(1, .int v28_1), (0, .ref m0)] → W p l e (headSpec wsX5_closes rm_X5_closes).room s m ([.ref m0] : List Value).toArray below meth c H locs 0 0 (MQ below (Q_X5_closes D cI m0 m1 m2 m3 m4 m5 m6 m7 m8 m9 m10 m11 mr mc me mw mh mn mu ms mt md mz mi mk mo mj ml A) ([.ref m0] : List Value).toArray s 0 0 A) (F0 m 94 ls []) := by
            intro x7_v36_2 x7_mu_36 hxe H locs hP hD hS ls hl
            simp only [Prod.mk.injEq] at hxe
            obtain ⟨rfl, rfl⟩ := hxe
            refine lv_iinc (v := (v28_1 + 1)) (lv' := [(1, .int (v28_1 + 1)), (0, .ref m0)]) hx hb dX5_closes_94 hl (k := 0) rfl rfl (by decide) rfl (fun ls hl => ?_)
            refine lv_goto (tgt := 28) hx hb dX5_closes_97 (by decide) ?_
            exact ih _ _ hp he _ _ hP hD hS _ (lv_sub hl [0, 1] rfl)
          have loop7 : ∀ (n : Nat) (v36_2 : Int32) (mu_36 : AA), p_X5_closes_L36 n v36_2 mu_36 → (r7_v36_2, r7_mu_36) = f_X5_closes_L36 n v36_2 mu_36 → ∀ (H : Heap) (locs : List Loc), va_P D vwCl (W_X5 cI m0 m1 m2 m3 m4 m5 m6 m7 m8 m9 m10 m11 mr mc me mw mh mn mu_36 ms mt md mz mi mk mo mj ml) H → va_D A (W_X5 cI m0 m1 m2 m3 m4 m5 m6 m7 m8 m9 m10 m11 mr mc me mw mh mn mu_36 ms mt md mz mi mk mo mj ml) → va_S A s.heap H locs → ∀ ls : Array Slot, lv_has ls 4 [(2, .int v36_2), (1, .int v28_1), (0, .ref m0)] → W p l e (headSpec wsX5_closes rm_X5_closes).room s m ([.ref m0] : List Value).toArray below meth c H locs 0 0 (MQ below (Q_X5_closes D cI m0 m1 m2 m3 m4 m5 m6 m7 m8 m9 m10 m11 mr mc me mw mh mn mu ms mt md mz mi mk mo mj ml A) ([.ref m0] : List Value).toArray s 0 0 A) (F0 m 36 ls []) := by
            intro n
            induction n with
            | zero => exact fun _ _ hp => hp.elim
            | succ n ih =>
              intro v36_2 mu_36 hp he H locs hP hD hS ls hl
              replace hp := Eq.mp (p_X5_closes_L36.eq_2 ..) hp
              replace he := he.trans (f_X5_closes_L36.eq_2 ..)
              refine lv_iload_n hx hb dX5_closes_36 rfl (lv_at hl 0 rfl) ?_
              refine lv_bipush (v := 14) hx hb dX5_closes_37 (by decide) ?_
              refine lv_icmp_ge (tgt := 94) hx hb dX5_closes_39 (by decide) (fun c8 => ?_) (fun c8 => ?_)
              · replace hp := hp.1 c8
                replace he := he.trans (if_pos c8)
                exact kont7 _ _ he _ _ hP hD hS _ (lv_sub hl [1, 2] rfl)
              · replace hp := hp.2 c8
                replace he := he.trans (if_neg c8)
                refine lv_iconst (v := 0) hx hb dX5_closes_42 (by decide) ?_
                refine lv_istore_n (lv' := [(3, .int 0), (2, .int v36_2), (1, .int v28_1), (0, .ref m0)]) hx hb dX5_closes_43 rfl hl (by decide) rfl (fun ls hl => ?_)
                obtain ⟨⟨r9_v44_3, r9_mu_44⟩, hL9⟩ : ∃ z, z = f_X5_closes_L44 v36_2 15 (0 : Int32) mu_36 := ⟨_, rfl⟩
                rw [← hL9] at he
                try dsimp only at he
                have hpL9 := hp.1
                replace hp := hp.2 _ _ hL9.symm
                have kont9 : ∀ (x9_v44_3 : Int32) (x9_mu_44 : AA), (r9_v44_3, r9_mu_44) = (x9_v44_3, x9_mu_44) → ∀ (H : Heap) (locs : List Loc), va_P D vwCl (W_X5 cI m0 m1 m2 m3 m4 m5 m6 m7 m8 m9 m10 m11 mr mc me mw mh mn x9_mu_44 ms mt md mz mi mk mo mj ml) H → va_D A (W_X5 cI m0 m1 m2 m3 m4 m5 m6 m7 m8 m9 m10 m11 mr mc me mw mh mn x9_mu_44 ms mt md mz mi mk mo mj ml) → va_S A s.heap H locs → ∀ ls : Array Slot, lv_has ls 4 [(2, .int v36_2), (1, .int v28_1), (0, .ref m0)] → W p l e (headSpec wsX5_closes rm_X5_closes).room s m ([.ref m0] : List Value).toArray below meth c H locs 0 0 (MQ below (Q_X5_closes D cI m0 m1 m2 m3 m4 m5 m6 m7 m8 m9 m10 m11 mr mc me mw mh mn mu ms mt md mz mi mk mo mj ml A) ([.ref m0] : List Value).toArray s 0 0 A) (F0 m 88 ls []) := by
                  intro x9_v44_3 x9_mu_44 hxe H locs hP hD hS ls hl
                  simp only [Prod.mk.injEq] at hxe
                  obtain ⟨rfl, rfl⟩ := hxe
                  refine lv_iinc (v := (v36_2 + 1)) (lv' := [(2, .int (v36_2 + 1)), (1, .int v28_1), (0, .ref m0)]) hx hb dX5_closes_88 hl (k := 0) rfl rfl (by decide) rfl (fun ls hl => ?_)
                  refine lv_goto (tgt := 36) hx hb dX5_closes_91 (by decide) ?_
                  exact ih _ _ hp he _ _ hP hD hS _ (lv_sub hl [0, 1, 2] rfl)
                have loop9 : ∀ (n : Nat) (v44_3 : Int32) (mu_44 : AA), p_X5_closes_L44 v36_2 n v44_3 mu_44 → (r9_v44_3, r9_mu_44) = f_X5_closes_L44 v36_2 n v44_3 mu_44 → ∀ (H : Heap) (locs : List Loc), va_P D vwCl (W_X5 cI m0 m1 m2 m3 m4 m5 m6 m7 m8 m9 m10 m11 mr mc me mw mh mn mu_44 ms mt md mz mi mk mo mj ml) H → va_D A (W_X5 cI m0 m1 m2 m3 m4 m5 m6 m7 m8 m9 m10 m11 mr mc me mw mh mn mu_44 ms mt md mz mi mk mo mj ml) → va_S A s.heap H locs → ∀ ls : Array Slot, lv_has ls 4 [(3, .int v44_3), (2, .int v36_2), (1, .int v28_1), (0, .ref m0)] → W p l e (headSpec wsX5_closes rm_X5_closes).room s m ([.ref m0] : List Value).toArray below meth c H locs 0 0 (MQ below (Q_X5_closes D cI m0 m1 m2 m3 m4 m5 m6 m7 m8 m9 m10 m11 mr mc me mw mh mn mu ms mt md mz mi mk mo mj ml A) ([.ref m0] : List Value).toArray s 0 0 A) (F0 m 44 ls []) := by
                  intro n
                  induction n with
                  | zero => exact fun _ _ hp => hp.elim
                  | succ n ih =>
                    intro v44_3 mu_44 hp he H locs hP hD hS ls hl
                    replace hp := Eq.mp (p_X5_closes_L44.eq_2 ..) hp
                    replace he := he.trans (f_X5_closes_L44.eq_2 ..)
                    refine lv_iload_n hx hb dX5_closes_44 rfl (lv_at hl 0 rfl) ?_
                    refine lv_bipush (v := 14) hx hb dX5_closes_45 (by decide) ?_
                    refine lv_icmp_ge (tgt := 88) hx hb dX5_closes_47 (by decide) (fun c10 => ?_) (fun c10 => ?_)
                    · replace hp := hp.1 c10
                      replace he := he.trans (if_pos c10)
                      exact kont9 _ _ he _ _ hP hD hS _ (lv_sub hl [1, 2, 3] rfl)
                    · replace hp := hp.2 c10
                      replace he := he.trans (if_neg c10)
                      refine lv_aload_n hx hb dX5_closes_50 rfl (lv_at hl 3 rfl) ?_
                      refine va_get (D := D) (ci := 5) (v := .ref m2) (C := RX5) (T := TX5) (N := 16) hx hb hts (by decide +kernel) hown hK hP 0 rfl rfl 1 (by decide) (hts (.fieldLink RX5 13 "AlarmgroveModel" "under" "[I") (by decide +kernel)) (fun _ h9 => h9) rfl dX5_closes_51 ?_
                      refine lv_iload_n hx hb dX5_closes_54 rfl (lv_at hl 1 rfl) ?_
                      refine lv_dup2_11 hx hb dX5_closes_55 rfl rfl ?_
                      have h11 := hp.1
                      replace hp := hp.2
                      refine va_iald hx hb hK hP 2 0 rfl rfl h11 dX5_closes_56 ?_
                      refine lv_aload_n hx hb dX5_closes_57 rfl (lv_at hl 3 rfl) ?_
                      refine va_get (D := D) (ci := 5) (v := .ref m2) (C := RX5) (T := TX5) (N := 16) hx hb hts (by decide +kernel) hown hK hP 0 rfl rfl 1 (by decide) (hts (.fieldLink RX5 13 "AlarmgroveModel" "under" "[I") (by decide +kernel)) (fun _ h9 => h9) rfl dX5_closes_58 ?_
                      refine lv_iload_n hx hb dX5_closes_61 rfl (lv_at hl 1 rfl) ?_
                      have h12 := hp.1
                      replace hp := hp.2
                      refine va_iald hx hb hK hP 2 0 rfl rfl h12 dX5_closes_62 ?_
                      refine lv_iload_n hx hb dX5_closes_63 rfl (lv_at hl 0 rfl) ?_
                      refine k_calli (S := Unit) (wc := ([] : va_W)) (wr := (W_X5 cI m0 m1 m2 m3 m4 m5 m6 m7 m8 m9 m10 m11 mr mc me mw mh mn mu_44 ms mt md mz mi mk mo mj ml)) (w1 := fun u => ([] : va_W)) (fun u => (W_X5 cI m0 m1 m2 m3 m4 m5 m6 m7 m8 m9 m10 m11 mr mc me mw mh mn mu_44 ms mt md mz mi mk mo mj ml)) hP hK hD hN hS hA [] [0, 1, 2, 3, 4, 5, 6, 7, 8, 9, 10, 11] rfl rfl (by decide) (by decide) (by decide) [0, 1, 2, 3, 4, 5, 6, 7, 8, 9, 10, 11] (by decide) (fun _ => rfl) (fun hg => va_runS (As := [.int (mu_44 (v36_2).toNatClampNeg), .int v44_3]) (rest := [.int (mu_44 (v36_2).toNatClampNeg), .int v36_2, .ref m2]) ⟨hx, hb, hml, hown, hts⟩ (c_X5_has l D cI _ (mu_44 (v36_2).toNatClampNeg) v44_3) (va_cwS 2 hts gX5_closes_X5_has rfl rfl rfl (by decide +kernel) ⟨Nat.le_of_ble_eq_true rfl, Nat.le_of_ble_eq_true rfl⟩) ⟨PW.blind, fun U hU hW => ⟨rfl, hg U hU hW⟩⟩ rfl rfl hl.1 rfl (lv_room (Nat.le_of_ble_eq_true rfl)) dX5_closes_64 ⟨Nat.le_of_ble_eq_true rfl, Nat.le_of_ble_eq_true rfl⟩) (fun r13 u H locs hw hP hD hS => ?_)
                      obtain ⟨hw, hb13⟩ := hw
                      subst hw
                      obtain ⟨j14, hJ14⟩ : ∃ z : Int32, z = (if (f_X5_has (mu_44 (v36_2).toNatClampNeg) v44_3) = 0 then (0 : Int32) else (mu_44 (v44_3).toNatClampNeg)) := ⟨_, rfl⟩
                      rw [← hJ14] at he
                      try dsimp only at he
                      have hpJ14 := hp.1
                      replace hp := hp.2 _  hJ14.symm
                      have kont14 : ∀ (H : Heap) (locs : List Loc), va_P D vwCl (W_X5 cI m0 m1 m2 m3 m4 m5 m6 m7 m8 m9 m10 m11 mr mc me mw mh mn mu_44 ms mt md mz mi mk mo mj ml) H → va_D A (W_X5 cI m0 m1 m2 m3 m4 m5 m6 m7 m8 m9 m10 m11 mr mc me mw mh mn mu_44 ms mt md mz mi mk mo mj ml) → va_S A s.heap H locs → ∀ ls : Array Slot, lv_has ls 4 [(3, .int v44_3), (2, .int v36_2), (1, .int v28_1), (0, .ref m0)] → W p l e (headSpec wsX5_closes rm_X5_closes).room s m ([.ref m0] : List Value).toArray below meth c H locs 0 0 (MQ below (Q_X5_closes D cI m0 m1 m2 m3 m4 m5 m6 m7 m8 m9 m10 m11 mr mc me mw mh mn mu ms mt md mz mi mk mo mj ml A) ([.ref m0] : List Value).toArray s 0 0 A) (F0 m 80 ls [.int j14, .int (mu_44 (v36_2).toNatClampNeg), .int v36_2, .ref m2]) := by
                        intro H locs hP hD hS ls hl
                        refine lv_ior hx hb dX5_closes_80 ?_
                        have h17 := hp.1
                        replace hp := hp.2
                        refine va_iast hx hb hK hP hD hS 2 0 rfl rfl h17 dX5_closes_81 (fun H locs hP hD hS => ?_)
                        have hP : va_P D vwCl (W_X5 cI m0 m1 m2 m3 m4 m5 m6 m7 m8 m9 m10 m11 mr mc me mw mh mn (upd mu_44 (v36_2).toNatClampNeg ((mu_44 (v36_2).toNatClampNeg) ||| j14)) ms mt md mz mi mk mo mj ml) H := hP
                        have hD : va_D A (W_X5 cI m0 m1 m2 m3 m4 m5 m6 m7 m8 m9 m10 m11 mr mc me mw mh mn (upd mu_44 (v36_2).toNatClampNeg ((mu_44 (v36_2).toNatClampNeg) ||| j14)) ms mt md mz mi mk mo mj ml) := hD
                        refine lv_iinc (v := (v44_3 + 1)) (lv' := [(3, .int (v44_3 + 1)), (2, .int v36_2), (1, .int v28_1), (0, .ref m0)]) hx hb dX5_closes_82 hl (k := 0) rfl rfl (by decide) rfl (fun ls hl => ?_)
                        refine lv_goto (tgt := 44) hx hb dX5_closes_85 (by decide) ?_
                        exact ih _ _ hp he _ _ hP hD hS _ (lv_sub hl [0, 1, 2, 3] rfl)
                      replace he := hJ14
                      replace hp := hpJ14
                      refine lv_if_eq (tgt := 79) hx hb dX5_closes_67 (by decide) (fun c15 => ?_) (fun c15 => ?_)
                      · replace hp := hp.1 c15
                        replace he := he.trans (if_pos c15)
                        refine lv_iconst (v := 0) hx hb dX5_closes_79 (by decide) ?_
                        subst he
                        exact kont14 _ _ hP hD hS _ (lv_sub hl [0, 1, 2, 3] rfl)
                      · replace hp := hp.2 c15
                        replace he := he.trans (if_neg c15)
                        refine lv_aload_n hx hb dX5_closes_70 rfl (lv_at hl 3 rfl) ?_
                        refine va_get (D := D) (ci := 5) (v := .ref m2) (C := RX5) (T := TX5) (N := 16) hx hb hts (by decide +kernel) hown hK hP 0 rfl rfl 1 (by decide) (hts (.fieldLink RX5 13 "AlarmgroveModel" "under" "[I") (by decide +kernel)) (fun _ h9 => h9) rfl dX5_closes_71 ?_
                        refine lv_iload_n hx hb dX5_closes_74 rfl (lv_at hl 0 rfl) ?_
                        have h16 := hp.1
                        replace hp := hp.2
                        refine va_iald hx hb hK hP 2 0 rfl rfl h16 dX5_closes_75 ?_
                        refine lv_goto (tgt := 80) hx hb dX5_closes_76 (by decide) ?_
                        subst he
                        exact kont14 _ _ hP hD hS _ (lv_sub hl [0, 1, 2, 3] rfl)
                exact loop9 15 (0 : Int32) mu_36 hpL9 hL9 _ _ hP hD hS _ (lv_sub hl [0, 1, 2, 3] rfl)
          exact loop7 15 (0 : Int32) mu_28 hpL7 hL7 _ _ hP hD hS _ (lv_sub hl [0, 1, 2] rfl)
    exact loop5 15 (0 : Int32) r1_mu_2 hpL5 hL5 _ _ hP hD hS _ (lv_sub hl [0, 1] rfl)
  have loop1 : ∀ (n : Nat) (v2_1 : Int32) (mu_2 : AA), p_X5_closes_L2 mn n v2_1 mu_2 → (r1_v2_1, r1_mu_2) = f_X5_closes_L2 mn n v2_1 mu_2 → ∀ (H : Heap) (locs : List Loc), va_P D vwCl (W_X5 cI m0 m1 m2 m3 m4 m5 m6 m7 m8 m9 m10 m11 mr mc me mw mh mn mu_2 ms mt md mz mi mk mo mj ml) H → va_D A (W_X5 cI m0 m1 m2 m3 m4 m5 m6 m7 m8 m9 m10 m11 mr mc me mw mh mn mu_2 ms mt md mz mi mk mo mj ml) → va_S A s.heap H locs → ∀ ls : Array Slot, lv_has ls 4 [(1, .int v2_1), (0, .ref m0)] → W p l e (headSpec wsX5_closes rm_X5_closes).room s m ([.ref m0] : List Value).toArray below meth c H locs 0 0 (MQ below (Q_X5_closes D cI m0 m1 m2 m3 m4 m5 m6 m7 m8 m9 m10 m11 mr mc me mw mh mn mu ms mt md mz mi mk mo mj ml A) ([.ref m0] : List Value).toArray s 0 0 A) (F0 m 2 ls []) := by
    intro n
    induction n with
    | zero => exact fun _ _ hp => hp.elim
    | succ n ih =>
      intro v2_1 mu_2 hp he H locs hP hD hS ls hl
      replace hp := Eq.mp (p_X5_closes_L2.eq_2 ..) hp
      replace he := he.trans (f_X5_closes_L2.eq_2 ..)
      refine lv_iload_n hx hb dX5_closes_2 rfl (lv_at hl 0 rfl) ?_
      refine lv_bipush (v := 14) hx hb dX5_closes_3 (by decide) ?_
      refine lv_icmp_ge (tgt := 26) hx hb dX5_closes_5 (by decide) (fun c2 => ?_) (fun c2 => ?_)
      · replace hp := hp.1 c2
        replace he := he.trans (if_pos c2)
        exact kont1 _ _ he _ _ hP hD hS _ (lv_sub hl [1] rfl)
      · replace hp := hp.2 c2
        replace he := he.trans (if_neg c2)
        refine lv_aload_n hx hb dX5_closes_8 rfl (lv_at hl 1 rfl) ?_
        refine va_get (D := D) (ci := 5) (v := .ref m2) (C := RX5) (T := TX5) (N := 16) hx hb hts (by decide +kernel) hown hK hP 0 rfl rfl 1 (by decide) (hts (.fieldLink RX5 13 "AlarmgroveModel" "under" "[I") (by decide +kernel)) (fun _ h9 => h9) rfl dX5_closes_9 ?_
        refine lv_iload_n hx hb dX5_closes_12 rfl (lv_at hl 0 rfl) ?_
        refine lv_aload_n hx hb dX5_closes_13 rfl (lv_at hl 1 rfl) ?_
        refine va_get (D := D) (ci := 5) (v := .ref m1) (C := RX5) (T := TX5) (N := 16) hx hb hts (by decide +kernel) hown hK hP 0 rfl rfl 0 (by decide) (hts (.fieldLink RX5 7 "AlarmgroveModel" "needs" "[I") (by decide +kernel)) (fun _ h9 => h9) rfl dX5_closes_14 ?_
        refine lv_iload_n hx hb dX5_closes_17 rfl (lv_at hl 0 rfl) ?_
        have h3 := hp.1
        replace hp := hp.2
        refine va_iald hx hb hK hP 1 0 rfl rfl h3 dX5_closes_18 ?_
        have h4 := hp.1
        replace hp := hp.2
        refine va_iast hx hb hK hP hD hS 2 0 rfl rfl h4 dX5_closes_19 (fun H locs hP hD hS => ?_)
        have hP : va_P D vwCl (W_X5 cI m0 m1 m2 m3 m4 m5 m6 m7 m8 m9 m10 m11 mr mc me mw mh mn (upd mu_2 (v2_1).toNatClampNeg (mn (v2_1).toNatClampNeg)) ms mt md mz mi mk mo mj ml) H := hP
        have hD : va_D A (W_X5 cI m0 m1 m2 m3 m4 m5 m6 m7 m8 m9 m10 m11 mr mc me mw mh mn (upd mu_2 (v2_1).toNatClampNeg (mn (v2_1).toNatClampNeg)) ms mt md mz mi mk mo mj ml) := hD
        refine lv_iinc (v := (v2_1 + 1)) (lv' := [(1, .int (v2_1 + 1)), (0, .ref m0)]) hx hb dX5_closes_20 hl (k := 0) rfl rfl (by decide) rfl (fun ls hl => ?_)
        refine lv_goto (tgt := 2) hx hb dX5_closes_23 (by decide) ?_
        exact ih _ _ hp he _ _ hP hD hS _ (lv_sub hl [0, 1] rfl)
  exact loop1 15 (0 : Int32) mu hpL1 hL1 _ _ hP hD hS _ (lv_sub hl [0, 1] rfl)
abbrev rm_X5_need : Room := { frames := 2, cells := 0, slots := 0, locals := 44 }
abbrev Q_X5_need (D : va_G) (cI : ClassId) (m0 m1 m2 m3 m4 m5 m6 m7 m8 m9 m10 m11 : Nat) (mr : Int32) (mc : Int32) (me : Int32) (mw : Int32) (mh : Int32) (mn : AA) (mu : AA) (ms : AA) (mt : AA) (md : AA) (mz : AA) (mi : AA) (mk : AA) (mo : AA) (mj : AA) (ml : AA) (a1 a2 : Int32) (A : Nat → Prop) : Array Value → State → Outcome → State → Prop := va_Qi (S := Int32 × AA × AA) (fun r u => f_X5_need mn mu a1 a2 = (r, u) ∧ (r = 0 ∨ r = 1)) (fun u t => QW D [(cI, .int)] A (W_X5 cI m0 m1 m2 m3 m4 m5 m6 m7 m8 m9 m10 m11 mr mc me mw u.1 u.2.1 u.2.2 ms mt md mz mi mk mo mj ml) t) A
set_option maxHeartbeats 4000000 in
set_option maxRecDepth 100000 in
theorem c_X5_need (l : Launch)  (D : va_G) (cI : ClassId) (m0 m1 m2 m3 m4 m5 m6 m7 m8 m9 m10 m11 : Nat) (mr : Int32) (mc : Int32) (me : Int32) (mw : Int32) (mh : Int32) (mn : AA) (mu : AA) (ms : AA) (mt : AA) (md : AA) (mz : AA) (mi : AA) (mk : AA) (mo : AA) (mj : AA) (ml : AA) (sz : Nat) (a1 a2 : Int32) (hp : p_X5_need mn mu a1 a2) : Met l yX5_need wsX5_need rm_X5_need (va_Pc [.ref m0, .int a1, .int a2] (PW D [(cI, .int)] sz (W_X5 cI m0 m1 m2 m3 m4 m5 m6 m7 m8 m9 m10 m11 mr mc me mw mh mn mu ms mt md mz mi mk mo mj ml))) (Q_X5_need D cI m0 m1 m2 m3 m4 m5 m6 m7 m8 m9 m10 m11 mr mc me mw mh mn mu ms mt md mz mi mk mo mj ml a1 a2 (va_A (W_X5 cI m0 m1 m2 m3 m4 m5 m6 m7 m8 m9 m10 m11 mr mc me mw mh mn mu ms mt md mz mi mk mo mj ml) sz)) 0 0 (va_A (W_X5 cI m0 m1 m2 m3 m4 m5 m6 m7 m8 m9 m10 m11 mr mc me mw mh mn mu ms mt md mz mi mk mo mj ml) sz) := by
  refine Met.ofW (cc := cX5_need) (maxL := 5) (ret := (some .boolean)) (by decide) rfl ?_
  intro p e s m args below meth c s₁ B hml hv
  obtain ⟨rfl, hsz, hP, hK, hD0, hN⟩ := hv
  have hx := B.exec
  have hb := B.bytes
  have hr := B.returns
  have hts := atoms_spec (ws := wsX5_need) B.pre
  have hown : s.vm.findClass RX5 = some m.cls := findClass_of_methodNamed B.named
  have hlocks := B.notSynchronized
  subst hsz
  have hD := hD0.self (sz := s.heap.size)
  generalize hAe : va_A (W_X5 cI m0 m1 m2 m3 m4 m5 m6 m7 m8 m9 m10 m11 mr mc me mw mh mn mu ms mt md mz mi mk mo mj ml) s.heap.size = A at hD ⊢
  have hA : ∀ q : Nat, s.heap.size ≤ q → A q := fun q h => by rw [← hAe]; exact Or.inr h
  have hS : va_S A s.heap s.heap [] := va_S.rf
  have hl := lv_entry ([.ref m0, .int a1, .int a2]) (n := 5) (Nat.le_of_ble_eq_true rfl)
  rw [lg_entry_eq]
  generalize (lg_sl ([.ref m0, .int a1, .int a2]) ++ List.replicate (5 - (lg_sl ([.ref m0, .int a1, .int a2])).length) Slot.unset).toArray = ls at hl ⊢
  have hl : lv_has ls 5 [(0, .ref m0), (1, .int a1), (2, .int a2)] := hl
  have he := f_X5_need.eq_1 mn mu a1 a2
  replace hp := Eq.mp (p_X5_need.eq_1 ..) hp
  refine lv_iload_n hx hb dX5_need_0 rfl (lv_at hl 1 rfl) ?_
  refine k_calli (S := Unit) (wc := ([] : va_W)) (wr := (W_X5 cI m0 m1 m2 m3 m4 m5 m6 m7 m8 m9 m10 m11 mr mc me mw mh mn mu ms mt md mz mi mk mo mj ml)) (w1 := fun u => ([] : va_W)) (fun u => (W_X5 cI m0 m1 m2 m3 m4 m5 m6 m7 m8 m9 m10 m11 mr mc me mw mh mn mu ms mt md mz mi mk mo mj ml)) hP hK hD hN hS hA [] [0, 1, 2, 3, 4, 5, 6, 7, 8, 9, 10, 11] rfl rfl (by decide) (by decide) (by decide) [0, 1, 2, 3, 4, 5, 6, 7, 8, 9, 10, 11] (by decide) (fun _ => rfl) (fun hg => va_runS (As := [.int a1]) (rest := []) ⟨hx, hb, hml, hown, hts⟩ (c_X5_isNode l D cI _ a1) (va_cwS 1 hts gX5_need_X5_isNode rfl rfl rfl (by decide +kernel) ⟨Nat.le_of_ble_eq_true rfl, Nat.le_of_ble_eq_true rfl⟩) ⟨PW.blind, fun U hU hW => ⟨rfl, hg U hU hW⟩⟩ rfl rfl hl.1 rfl (lv_room (Nat.le_of_ble_eq_true rfl)) dX5_need_1 ⟨Nat.le_of_ble_eq_true rfl, Nat.le_of_ble_eq_true rfl⟩) (fun r1 u H locs hw hP hD hS => ?_)
  obtain ⟨hw, hb1⟩ := hw
  subst hw
  obtain ⟨j2, hJ2⟩ : ∃ z : Int32, z = (if (f_X5_isNode a1) = 0 then (0 : Int32) else (if (f_X5_isNode a2) = 0 then (0 : Int32) else (1 : Int32))) := ⟨_, rfl⟩
  rw [← hJ2] at he
  try dsimp only at he
  have hpJ2 := hp.1
  replace hp := hp.2 _  hJ2.symm
  have kont2 : (j2 = 0 ∨ j2 = 1) → ∀ (H : Heap) (locs : List Loc), va_P D vwCl (W_X5 cI m0 m1 m2 m3 m4 m5 m6 m7 m8 m9 m10 m11 mr mc me mw mh mn mu ms mt md mz mi mk mo mj ml) H → va_D A (W_X5 cI m0 m1 m2 m3 m4 m5 m6 m7 m8 m9 m10 m11 mr mc me mw mh mn mu ms mt md mz mi mk mo mj ml) → va_S A s.heap H locs → ∀ ls : Array Slot, lv_has ls 5 [(0, .ref m0), (1, .int a1), (2, .int a2)] → W p l e (headSpec wsX5_need rm_X5_need).room s m ([.ref m0, .int a1, .int a2] : List Value).toArray below meth c H locs 0 0 (MQ below (Q_X5_need D cI m0 m1 m2 m3 m4 m5 m6 m7 m8 m9 m10 m11 mr mc me mw mh mn mu ms mt md mz mi mk mo mj ml a1 a2 A) ([.ref m0, .int a1, .int a2] : List Value).toArray s 0 0 A) (F0 m 19 ls [.int j2]) := by
    intro hb2 H locs hP hD hS ls hl
    refine lv_istore_n (lv' := [(3, .int j2), (0, .ref m0), (1, .int a1), (2, .int a2)]) hx hb dX5_need_19 rfl hl (by decide) rfl (fun ls hl => ?_)
    refine lv_aload_n hx hb dX5_need_20 rfl (lv_at hl 1 rfl) ?_
    refine lv_iload_n hx hb dX5_need_21 rfl (lv_at hl 0 rfl) ?_
    refine lv_iload_n hx hb dX5_need_22 rfl (lv_at hl 0 rfl) ?_
    obtain ⟨j6, hJ6⟩ : ∃ z : Int32, z = (if j2 = 0 then (0 : Int32) else (if a1 = a2 then (0 : Int32) else (if (f_X5_has (mu (a2).toNatClampNeg) a1) = 0 then (1 : Int32) else (0 : Int32)))) := ⟨_, rfl⟩
    rw [← hJ6] at he
    try dsimp only at he
    have hpJ6 := hp.1
    replace hp := hp.2 _  hJ6.symm
    have kont6 : (j6 = 0 ∨ j6 = 1) → ∀ (H : Heap) (locs : List Loc), va_P D vwCl (W_X5 cI m0 m1 m2 m3 m4 m5 m6 m7 m8 m9 m10 m11 mr mc me mw mh mn mu ms mt md mz mi mk mo mj ml) H → va_D A (W_X5 cI m0 m1 m2 m3 m4 m5 m6 m7 m8 m9 m10 m11 mr mc me mw mh mn mu ms mt md mz mi mk mo mj ml) → va_S A s.heap H locs → ∀ ls : Array Slot, lv_has ls 5 [(0, .ref m0), (1, .int a1), (2, .int a2)] → W p l e (headSpec wsX5_need rm_X5_need).room s m ([.ref m0, .int a1, .int a2] : List Value).toArray below meth c H locs 0 0 (MQ below (Q_X5_need D cI m0 m1 m2 m3 m4 m5 m6 m7 m8 m9 m10 m11 mr mc me mw mh mn mu ms mt md mz mi mk mo mj ml a1 a2 A) ([.ref m0, .int a1, .int a2] : List Value).toArray s 0 0 A) (F0 m 49 ls [.int j6, .int j2, .ref m0]) := by
      intro hb6 H locs hP hD hS ls hl
      refine k_calli (S := Int32) (wc := (W_X5 cI m0 m1 m2 m3 m4 m5 m6 m7 m8 m9 m10 m11 mr mc me mw mh mn mu ms mt md mz mi mk mo mj ml)) (wr := ([] : va_W)) (w1 := fun u => (W_X5 cI m0 m1 m2 m3 m4 m5 m6 m7 m8 m9 m10 m11 mr mc me mw u mn mu ms mt md mz mi mk mo mj ml)) (fun u => (W_X5 cI m0 m1 m2 m3 m4 m5 m6 m7 m8 m9 m10 m11 mr mc me mw u mn mu ms mt md mz mi mk mo mj ml)) hP hK hD hN hS hA [0, 1, 2, 3, 4, 5, 6, 7, 8, 9, 10, 11] [] rfl rfl (by decide) (by decide) (by decide) [0, 1, 2, 3, 4, 5, 6, 7, 8, 9, 10, 11] (by decide) (fun _ => rfl) (fun hg => va_runV (As := [.int j2, .int j6]) (rest := []) ⟨hx, hb, hml, hown, hts⟩ (c_X5_goes l D cI m0 m1 m2 m3 m4 m5 m6 m7 m8 m9 m10 m11 mr mc me mw mh mn mu ms mt md mz mi mk mo mj ml _ j2 j6) (cwV 2 hts gX5_need_X5_goes rfl rfl rfl (by decide +kernel) ⟨Nat.le_of_ble_eq_true rfl, Nat.le_of_ble_eq_true rfl⟩) ⟨PW.blind, va_recv hK hP (ci := 5) (q0 := 0) rfl rfl, fun U hU hW => ⟨rfl, hg U hU hW⟩⟩ rfl rfl hl.1 rfl (lv_room (Nat.le_of_ble_eq_true rfl)) dX5_need_49 ⟨Nat.le_of_ble_eq_true rfl, Nat.le_of_ble_eq_true rfl⟩) (fun r12 u H locs hw hP hD hS => ?_)
      obtain ⟨u12_0, rfl⟩ : ∃ z, z = u := ⟨_, rfl⟩
      obtain ⟨hw, hb12⟩ := hw
      rw [hw] at he
      try dsimp only at he
      replace hp := hp r12 u12_0 hw
      have hP : va_P D vwCl (W_X5 cI m0 m1 m2 m3 m4 m5 m6 m7 m8 m9 m10 m11 mr mc me mw u12_0 mn mu ms mt md mz mi mk mo mj ml) H := hP
      have hD : va_D A (W_X5 cI m0 m1 m2 m3 m4 m5 m6 m7 m8 m9 m10 m11 mr mc me mw u12_0 mn mu ms mt md mz mi mk mo mj ml) := hD
      refine lv_if_ne (tgt := 57) hx hb dX5_need_52 (by decide) (fun c13 => ?_) (fun c13 => ?_)
      · replace hp := hp.2 c13
        replace he := he.trans (if_neg c13)
        refine lv_aload_n hx hb dX5_need_57 rfl (lv_at hl 0 rfl) ?_
        refine va_get (D := D) (ci := 5) (v := .ref m1) (C := RX5) (T := TX5) (N := 16) hx hb hts (by decide +kernel) hown hK hP 0 rfl rfl 0 (by decide) (hts (.fieldLink RX5 7 "AlarmgroveModel" "needs" "[I") (by decide +kernel)) (fun _ h9 => h9) rfl dX5_need_58 ?_
        refine lv_iload_n hx hb dX5_need_61 rfl (lv_at hl 1 rfl) ?_
        have h14 := hp.1
        replace hp := hp.2
        refine va_iald hx hb hK hP 1 0 rfl rfl h14 dX5_need_62 ?_
        refine lv_iload_n hx hb dX5_need_63 rfl (lv_at hl 2 rfl) ?_
        refine k_calli (S := Unit) (wc := ([] : va_W)) (wr := (W_X5 cI m0 m1 m2 m3 m4 m5 m6 m7 m8 m9 m10 m11 mr mc me mw u12_0 mn mu ms mt md mz mi mk mo mj ml)) (w1 := fun u => ([] : va_W)) (fun u => (W_X5 cI m0 m1 m2 m3 m4 m5 m6 m7 m8 m9 m10 m11 mr mc me mw u12_0 mn mu ms mt md mz mi mk mo mj ml)) hP hK hD hN hS hA [] [0, 1, 2, 3, 4, 5, 6, 7, 8, 9, 10, 11] rfl rfl (by decide) (by decide) (by decide) [0, 1, 2, 3, 4, 5, 6, 7, 8, 9, 10, 11] (by decide) (fun _ => rfl) (fun hg => va_runS (As := [.int (mn (a1).toNatClampNeg), .int a2]) (rest := []) ⟨hx, hb, hml, hown, hts⟩ (c_X5_has l D cI _ (mn (a1).toNatClampNeg) a2) (va_cwS 2 hts gX5_need_X5_has rfl rfl rfl (by decide +kernel) ⟨Nat.le_of_ble_eq_true rfl, Nat.le_of_ble_eq_true rfl⟩) ⟨PW.blind, fun U hU hW => ⟨rfl, hg U hU hW⟩⟩ rfl rfl hl.1 rfl (lv_room (Nat.le_of_ble_eq_true rfl)) dX5_need_64 ⟨Nat.le_of_ble_eq_true rfl, Nat.le_of_ble_eq_true rfl⟩) (fun r15 u H locs hw hP hD hS => ?_)
        obtain ⟨hw, hb15⟩ := hw
        subst hw
        obtain ⟨j16, hJ16⟩ : ∃ z : Int32, z = (if (f_X5_has (mn (a1).toNatClampNeg) a2) = 0 then (1 : Int32) else (0 : Int32)) := ⟨_, rfl⟩
        rw [← hJ16] at he
        try dsimp only at he
        have hpJ16 := hp.1
        replace hp := hp.2 _  hJ16.symm
        have kont16 : (j16 = 0 ∨ j16 = 1) → ∀ (H : Heap) (locs : List Loc), va_P D vwCl (W_X5 cI m0 m1 m2 m3 m4 m5 m6 m7 m8 m9 m10 m11 mr mc me mw u12_0 mn mu ms mt md mz mi mk mo mj ml) H → va_D A (W_X5 cI m0 m1 m2 m3 m4 m5 m6 m7 m8 m9 m10 m11 mr mc me mw u12_0 mn mu ms mt md mz mi mk mo mj ml) → va_S A s.heap H locs → ∀ ls : Array Slot, lv_has ls 5 [(0, .ref m0), (1, .int a1), (2, .int a2)] → W p l e (headSpec wsX5_need rm_X5_need).room s m ([.ref m0, .int a1, .int a2] : List Value).toArray below meth c H locs 0 0 (MQ below (Q_X5_need D cI m0 m1 m2 m3 m4 m5 m6 m7 m8 m9 m10 m11 mr mc me mw mh mn mu ms mt md mz mi mk mo mj ml a1 a2 A) ([.ref m0, .int a1, .int a2] : List Value).toArray s 0 0 A) (F0 m 75 ls [.int j16]) := by
          intro hb16 H locs hP hD hS ls hl
          refine lv_istore (lv' := [(4, .int j16), (0, .ref m0), (1, .int a1), (2, .int a2)]) hx hb dX5_need_75 hl (by decide) rfl (fun ls hl => ?_)
          refine lv_aload_n hx hb dX5_need_77 rfl (lv_at hl 1 rfl) ?_
          refine va_get (D := D) (ci := 5) (v := .ref m1) (C := RX5) (T := TX5) (N := 16) hx hb hts (by decide +kernel) hown hK hP 0 rfl rfl 0 (by decide) (hts (.fieldLink RX5 7 "AlarmgroveModel" "needs" "[I") (by decide +kernel)) (fun _ h9 => h9) rfl dX5_need_78 ?_
          refine lv_iload_n hx hb dX5_need_81 rfl (lv_at hl 2 rfl) ?_
          refine lv_dup2_11 hx hb dX5_need_82 rfl rfl ?_
          have h18 := hp.1
          replace hp := hp.2
          refine va_iald hx hb hK hP 1 0 rfl rfl h18 dX5_need_83 ?_
          refine lv_iconst (v := 1) hx hb dX5_need_84 (by decide) ?_
          refine lv_iload_n hx hb dX5_need_85 rfl (lv_at hl 3 rfl) ?_
          refine lv_ishl hx hb dX5_need_86 ?_
          refine lv_ior hx hb dX5_need_87 ?_
          have h19 := hp.1
          replace hp := hp.2
          refine va_iast hx hb hK hP hD hS 1 0 rfl rfl h19 dX5_need_88 (fun H locs hP hD hS => ?_)
          have hP : va_P D vwCl (W_X5 cI m0 m1 m2 m3 m4 m5 m6 m7 m8 m9 m10 m11 mr mc me mw u12_0 (upd mn (a1).toNatClampNeg ((mn (a1).toNatClampNeg) ||| (1 <<< (a2 &&& 31)))) mu ms mt md mz mi mk mo mj ml) H := hP
          have hD : va_D A (W_X5 cI m0 m1 m2 m3 m4 m5 m6 m7 m8 m9 m10 m11 mr mc me mw u12_0 (upd mn (a1).toNatClampNeg ((mn (a1).toNatClampNeg) ||| (1 <<< (a2 &&& 31)))) mu ms mt md mz mi mk mo mj ml) := hD
          refine lv_aload_n hx hb dX5_need_89 rfl (lv_at hl 1 rfl) ?_
          have hq20 := hp.1
          replace hp := hp.2
          refine k_callv (S := AA) (wc := (W_X5 cI m0 m1 m2 m3 m4 m5 m6 m7 m8 m9 m10 m11 mr mc me mw u12_0 (upd mn (a1).toNatClampNeg ((mn (a1).toNatClampNeg) ||| (1 <<< (a2 &&& 31)))) mu ms mt md mz mi mk mo mj ml)) (wr := ([] : va_W)) (w1 := fun u => (W_X5 cI m0 m1 m2 m3 m4 m5 m6 m7 m8 m9 m10 m11 mr mc me mw u12_0 (upd mn (a1).toNatClampNeg ((mn (a1).toNatClampNeg) ||| (1 <<< (a2 &&& 31)))) u ms mt md mz mi mk mo mj ml)) (fun u => (W_X5 cI m0 m1 m2 m3 m4 m5 m6 m7 m8 m9 m10 m11 mr mc me mw u12_0 (upd mn (a1).toNatClampNeg ((mn (a1).toNatClampNeg) ||| (1 <<< (a2 &&& 31)))) u ms mt md mz mi mk mo mj ml)) hP hK hD hN hS hA [0, 1, 2, 3, 4, 5, 6, 7, 8, 9, 10, 11] [] rfl rfl (by decide) (by decide) (by decide) [0, 1, 2, 3, 4, 5, 6, 7, 8, 9, 10, 11] (by decide) (fun _ => rfl) (fun hg => va_runV (As := []) (rest := []) ⟨hx, hb, hml, hown, hts⟩ (c_X5_closes l D cI m0 m1 m2 m3 m4 m5 m6 m7 m8 m9 m10 m11 mr mc me mw u12_0 (upd mn (a1).toNatClampNeg ((mn (a1).toNatClampNeg) ||| (1 <<< (a2 &&& 31)))) mu ms mt md mz mi mk mo mj ml _ hq20) (cwV 0 hts gX5_need_X5_closes rfl rfl rfl (by decide +kernel) ⟨Nat.le_of_ble_eq_true rfl, Nat.le_of_ble_eq_true rfl⟩) ⟨PW.blind, va_recv hK hP (ci := 5) (q0 := 0) rfl rfl, fun U hU hW => ⟨rfl, hg U hU hW⟩⟩ rfl rfl hl.1 rfl (lv_room (Nat.le_of_ble_eq_true rfl)) dX5_need_90 ⟨Nat.le_of_ble_eq_true rfl, Nat.le_of_ble_eq_true rfl⟩) (fun u H locs hw hP hD hS => ?_)
          obtain ⟨u20_0, rfl⟩ : ∃ z, z = u := ⟨_, rfl⟩
          rw [hw] at he
          replace hp := hp u20_0 hw
          have hP : va_P D vwCl (W_X5 cI m0 m1 m2 m3 m4 m5 m6 m7 m8 m9 m10 m11 mr mc me mw u12_0 (upd mn (a1).toNatClampNeg ((mn (a1).toNatClampNeg) ||| (1 <<< (a2 &&& 31)))) u20_0 ms mt md mz mi mk mo mj ml) H := hP
          have hD : va_D A (W_X5 cI m0 m1 m2 m3 m4 m5 m6 m7 m8 m9 m10 m11 mr mc me mw u12_0 (upd mn (a1).toNatClampNeg ((mn (a1).toNatClampNeg) ||| (1 <<< (a2 &&& 31)))) u20_0 ms mt md mz mi mk mo mj ml) := hD
          refine lv_iload hx hb dX5_need_93 (lv_at hl 0 rfl) ?_
          exact W.zret (ty := .boolean) (v := j16) hx hb hr (by rcases hb16 with h9 | h9 <;> rw [h9] <;> rfl) (fun t ht hW => ⟨⟨j16, (u12_0, (upd mn (a1).toNatClampNeg ((mn (a1).toNatClampNeg) ||| (1 <<< (a2 &&& 31)))), u20_0), rfl, ⟨he, hb16⟩, by rw [ht]; exact hP, va_K.moved hW.alike hK, hD⟩, hS.F ht⟩) hS.2.2 dX5_need_95
        replace he := hJ16
        replace hp := hpJ16
        refine lv_if_ne (tgt := 74) hx hb dX5_need_67 (by decide) (fun c17 => ?_) (fun c17 => ?_)
        · replace hp := hp.2 c17
          replace he := he.trans (if_neg c17)
          refine lv_iconst (v := 0) hx hb dX5_need_74 (by decide) ?_
          subst he
          exact kont16 (Or.inl rfl) _ _ hP hD hS _ (lv_sub hl [0, 1, 2] rfl)
        · replace hp := hp.1 c17
          replace he := he.trans (if_pos c17)
          refine lv_iconst (v := 1) hx hb dX5_need_70 (by decide) ?_
          refine lv_goto (tgt := 75) hx hb dX5_need_71 (by decide) ?_
          subst he
          exact kont16 (Or.inr rfl) _ _ hP hD hS _ (lv_sub hl [0, 1, 2] rfl)
      · replace hp := hp.1 c13
        replace he := he.trans (if_pos c13)
        refine lv_iconst (v := 0) hx hb dX5_need_55 (by decide) ?_
        exact W.zret (ty := .boolean) (v := 0) hx hb hr rfl (fun t ht hW => ⟨⟨0, (u12_0, mn, mu), rfl, ⟨he, (Or.inl rfl)⟩, by rw [ht]; exact hP, va_K.moved hW.alike hK, hD⟩, hS.F ht⟩) hS.2.2 dX5_need_56
    replace he := hJ6
    replace hp := hpJ6
    refine lv_if_eq (tgt := 48) hx hb dX5_need_23 (by decide) (fun c7 => ?_) (fun c7 => ?_)
    · replace hp := hp.1 c7
      replace he := he.trans (if_pos c7)
      refine lv_iconst (v := 0) hx hb dX5_need_48 (by decide) ?_
      subst he
      exact kont6 (Or.inl rfl) _ _ hP hD hS _ (lv_sub hl [1, 2, 3] rfl)
    · replace hp := hp.2 c7
      replace he := he.trans (if_neg c7)
      refine lv_iload_n hx hb dX5_need_26 rfl (lv_at hl 2 rfl) ?_
      refine lv_iload_n hx hb dX5_need_27 rfl (lv_at hl 3 rfl) ?_
      refine lv_icmp_eq (tgt := 48) hx hb dX5_need_28 (by decide) (fun c8 => ?_) (fun c8 => ?_)
      · replace hp := hp.1 c8
        replace he := he.trans (if_pos c8)
        refine lv_iconst (v := 0) hx hb dX5_need_48 (by decide) ?_
        subst he
        exact kont6 (Or.inl rfl) _ _ hP hD hS _ (lv_sub hl [1, 2, 3] rfl)
      · replace hp := hp.2 c8
        replace he := he.trans (if_neg c8)
        refine lv_aload_n hx hb dX5_need_31 rfl (lv_at hl 1 rfl) ?_
        refine va_get (D := D) (ci := 5) (v := .ref m2) (C := RX5) (T := TX5) (N := 16) hx hb hts (by decide +kernel) hown hK hP 0 rfl rfl 1 (by decide) (hts (.fieldLink RX5 13 "AlarmgroveModel" "under" "[I") (by decide +kernel)) (fun _ h9 => h9) rfl dX5_need_32 ?_
        refine lv_iload_n hx hb dX5_need_35 rfl (lv_at hl 3 rfl) ?_
        have h9 := hp.1
        replace hp := hp.2
        refine va_iald hx hb hK hP 2 0 rfl rfl h9 dX5_need_36 ?_
        refine lv_iload_n hx hb dX5_need_37 rfl (lv_at hl 2 rfl) ?_
        refine k_calli (S := Unit) (wc := ([] : va_W)) (wr := (W_X5 cI m0 m1 m2 m3 m4 m5 m6 m7 m8 m9 m10 m11 mr mc me mw mh mn mu ms mt md mz mi mk mo mj ml)) (w1 := fun u => ([] : va_W)) (fun u => (W_X5 cI m0 m1 m2 m3 m4 m5 m6 m7 m8 m9 m10 m11 mr mc me mw mh mn mu ms mt md mz mi mk mo mj ml)) hP hK hD hN hS hA [] [0, 1, 2, 3, 4, 5, 6, 7, 8, 9, 10, 11] rfl rfl (by decide) (by decide) (by decide) [0, 1, 2, 3, 4, 5, 6, 7, 8, 9, 10, 11] (by decide) (fun _ => rfl) (fun hg => va_runS (As := [.int (mu (a2).toNatClampNeg), .int a1]) (rest := [.int j2, .ref m0]) ⟨hx, hb, hml, hown, hts⟩ (c_X5_has l D cI _ (mu (a2).toNatClampNeg) a1) (va_cwS 2 hts gX5_need_X5_has rfl rfl rfl (by decide +kernel) ⟨Nat.le_of_ble_eq_true rfl, Nat.le_of_ble_eq_true rfl⟩) ⟨PW.blind, fun U hU hW => ⟨rfl, hg U hU hW⟩⟩ rfl rfl hl.1 rfl (lv_room (Nat.le_of_ble_eq_true rfl)) dX5_need_38 ⟨Nat.le_of_ble_eq_true rfl, Nat.le_of_ble_eq_true rfl⟩) (fun r10 u H locs hw hP hD hS => ?_)
        obtain ⟨hw, hb10⟩ := hw
        subst hw
        refine lv_if_ne (tgt := 48) hx hb dX5_need_41 (by decide) (fun c11 => ?_) (fun c11 => ?_)
        · replace hp := hp.2 c11
          replace he := he.trans (if_neg c11)
          refine lv_iconst (v := 0) hx hb dX5_need_48 (by decide) ?_
          subst he
          exact kont6 (Or.inl rfl) _ _ hP hD hS _ (lv_sub hl [1, 2, 3] rfl)
        · replace hp := hp.1 c11
          replace he := he.trans (if_pos c11)
          refine lv_iconst (v := 1) hx hb dX5_need_44 (by decide) ?_
          refine lv_goto (tgt := 49) hx hb dX5_need_45 (by decide) ?_
          subst he
          exact kont6 (Or.inr rfl) _ _ hP hD hS _ (lv_sub hl [1, 2, 3] rfl)
  replace he := hJ2
  replace hp := hpJ2
  refine lv_if_eq (tgt := 18) hx hb dX5_need_4 (by decide) (fun c3 => ?_) (fun c3 => ?_)
  · replace hp := hp.1 c3
    replace he := he.trans (if_pos c3)
    refine lv_iconst (v := 0) hx hb dX5_need_18 (by decide) ?_
    subst he
    exact kont2 (Or.inl rfl) _ _ hP hD hS _ (lv_sub hl [0, 1, 2] rfl)
  · replace hp := hp.2 c3
    replace he := he.trans (if_neg c3)
    refine lv_iload_n hx hb dX5_need_7 rfl (lv_at hl 2 rfl) ?_
    refine k_calli (S := Unit) (wc := ([] : va_W)) (wr := (W_X5 cI m0 m1 m2 m3 m4 m5 m6 m7 m8 m9 m10 m11 mr mc me mw mh mn mu ms mt md mz mi mk mo mj ml)) (w1 := fun u => ([] : va_W)) (fun u => (W_X5 cI m0 m1 m2 m3 m4 m5 m6 m7 m8 m9 m10 m11 mr mc me mw mh mn mu ms mt md mz mi mk mo mj ml)) hP hK hD hN hS hA [] [0, 1, 2, 3, 4, 5, 6, 7, 8, 9, 10, 11] rfl rfl (by decide) (by decide) (by decide) [0, 1, 2, 3, 4, 5, 6, 7, 8, 9, 10, 11] (by decide) (fun _ => rfl) (fun hg => va_runS (As := [.int a2]) (rest := []) ⟨hx, hb, hml, hown, hts⟩ (c_X5_isNode l D cI _ a2) (va_cwS 1 hts gX5_need_X5_isNode rfl rfl rfl (by decide +kernel) ⟨Nat.le_of_ble_eq_true rfl, Nat.le_of_ble_eq_true rfl⟩) ⟨PW.blind, fun U hU hW => ⟨rfl, hg U hU hW⟩⟩ rfl rfl hl.1 rfl (lv_room (Nat.le_of_ble_eq_true rfl)) dX5_need_8 ⟨Nat.le_of_ble_eq_true rfl, Nat.le_of_ble_eq_true rfl⟩) (fun r4 u H locs hw hP hD hS => ?_)
    obtain ⟨hw, hb4⟩ := hw
    subst hw
    refine lv_if_eq (tgt := 18) hx hb dX5_need_11 (by decide) (fun c5 => ?_) (fun c5 => ?_)
    · replace hp := hp.1 c5
      replace he := he.trans (if_pos c5)
      refine lv_iconst (v := 0) hx hb dX5_need_18 (by decide) ?_
      subst he
      exact kont2 (Or.inl rfl) _ _ hP hD hS _ (lv_sub hl [0, 1, 2] rfl)
    · replace hp := hp.2 c5
      replace he := he.trans (if_neg c5)
      refine lv_iconst (v := 1) hx hb dX5_need_14 (by decide) ?_
      refine lv_goto (tgt := 19) hx hb dX5_need_15 (by decide) ?_
      subst he
      exact kont2 (Or.inr rfl) _ _ hP hD hS _ (lv_sub hl [0, 1, 2] rfl)
abbrev rm_X5_release : Room := { frames := 2, cells := 0, slots := 0, locals := 44 }
abbrev Q_X5_release (D : va_G) (cI : ClassId) (m0 m1 m2 m3 m4 m5 m6 m7 m8 m9 m10 m11 : Nat) (mr : Int32) (mc : Int32) (me : Int32) (mw : Int32) (mh : Int32) (mn : AA) (mu : AA) (ms : AA) (mt : AA) (md : AA) (mz : AA) (mi : AA) (mk : AA) (mo : AA) (mj : AA) (ml : AA) (a1 a2 : Int32) (A : Nat → Prop) : Array Value → State → Outcome → State → Prop := va_Qi (S := Int32 × AA × AA) (fun r u => f_X5_release mn mu a1 a2 = (r, u) ∧ (r = 0 ∨ r = 1)) (fun u t => QW D [(cI, .int)] A (W_X5 cI m0 m1 m2 m3 m4 m5 m6 m7 m8 m9 m10 m11 mr mc me mw u.1 u.2.1 u.2.2 ms mt md mz mi mk mo mj ml) t) A
set_option maxHeartbeats 4000000 in
set_option maxRecDepth 100000 in
theorem c_X5_release (l : Launch)  (D : va_G) (cI : ClassId) (m0 m1 m2 m3 m4 m5 m6 m7 m8 m9 m10 m11 : Nat) (mr : Int32) (mc : Int32) (me : Int32) (mw : Int32) (mh : Int32) (mn : AA) (mu : AA) (ms : AA) (mt : AA) (md : AA) (mz : AA) (mi : AA) (mk : AA) (mo : AA) (mj : AA) (ml : AA) (sz : Nat) (a1 a2 : Int32) (hp : p_X5_release mn mu a1 a2) : Met l yX5_release wsX5_release rm_X5_release (va_Pc [.ref m0, .int a1, .int a2] (PW D [(cI, .int)] sz (W_X5 cI m0 m1 m2 m3 m4 m5 m6 m7 m8 m9 m10 m11 mr mc me mw mh mn mu ms mt md mz mi mk mo mj ml))) (Q_X5_release D cI m0 m1 m2 m3 m4 m5 m6 m7 m8 m9 m10 m11 mr mc me mw mh mn mu ms mt md mz mi mk mo mj ml a1 a2 (va_A (W_X5 cI m0 m1 m2 m3 m4 m5 m6 m7 m8 m9 m10 m11 mr mc me mw mh mn mu ms mt md mz mi mk mo mj ml) sz)) 0 0 (va_A (W_X5 cI m0 m1 m2 m3 m4 m5 m6 m7 m8 m9 m10 m11 mr mc me mw mh mn mu ms mt md mz mi mk mo mj ml) sz) := by
  refine Met.ofW (cc := cX5_release) (maxL := 4) (ret := (some .boolean)) (by decide) rfl ?_
  intro p e s m args below meth c s₁ B hml hv
  obtain ⟨rfl, hsz, hP, hK, hD0, hN⟩ := hv
  have hx := B.exec
  have hb := B.bytes
  have hr := B.returns
  have hts := atoms_spec (ws := wsX5_release) B.pre
  have hown : s.vm.findClass RX5 = some m.cls := findClass_of_methodNamed B.named
  have hlocks := B.notSynchronized
  subst hsz
  have hD := hD0.self (sz := s.heap.size)
  generalize hAe : va_A (W_X5 cI m0 m1 m2 m3 m4 m5 m6 m7 m8 m9 m10 m11 mr mc me mw mh mn mu ms mt md mz mi mk mo mj ml) s.heap.size = A at hD ⊢
  have hA : ∀ q : Nat, s.heap.size ≤ q → A q := fun q h => by rw [← hAe]; exact Or.inr h
  have hS : va_S A s.heap s.heap [] := va_S.rf
  have hl := lv_entry ([.ref m0, .int a1, .int a2]) (n := 4) (Nat.le_of_ble_eq_true rfl)
  rw [lg_entry_eq]
  generalize (lg_sl ([.ref m0, .int a1, .int a2]) ++ List.replicate (4 - (lg_sl ([.ref m0, .int a1, .int a2])).length) Slot.unset).toArray = ls at hl ⊢
  have hl : lv_has ls 4 [(0, .ref m0), (1, .int a1), (2, .int a2)] := hl
  have he := f_X5_release.eq_1 mn mu a1 a2
  replace hp := Eq.mp (p_X5_release.eq_1 ..) hp
  refine lv_aload_n hx hb dX5_release_0 rfl (lv_at hl 0 rfl) ?_
  refine lv_iload_n hx hb dX5_release_1 rfl (lv_at hl 1 rfl) ?_
  refine k_calli (S := Unit) (wc := ([] : va_W)) (wr := (W_X5 cI m0 m1 m2 m3 m4 m5 m6 m7 m8 m9 m10 m11 mr mc me mw mh mn mu ms mt md mz mi mk mo mj ml)) (w1 := fun u => ([] : va_W)) (fun u => (W_X5 cI m0 m1 m2 m3 m4 m5 m6 m7 m8 m9 m10 m11 mr mc me mw mh mn mu ms mt md mz mi mk mo mj ml)) hP hK hD hN hS hA [] [0, 1, 2, 3, 4, 5, 6, 7, 8, 9, 10, 11] rfl rfl (by decide) (by decide) (by decide) [0, 1, 2, 3, 4, 5, 6, 7, 8, 9, 10, 11] (by decide) (fun _ => rfl) (fun hg => va_runS (As := [.int a1]) (rest := [.ref m0]) ⟨hx, hb, hml, hown, hts⟩ (c_X5_isNode l D cI _ a1) (va_cwS 1 hts gX5_release_X5_isNode rfl rfl rfl (by decide +kernel) ⟨Nat.le_of_ble_eq_true rfl, Nat.le_of_ble_eq_true rfl⟩) ⟨PW.blind, fun U hU hW => ⟨rfl, hg U hU hW⟩⟩ rfl rfl hl.1 rfl (lv_room (Nat.le_of_ble_eq_true rfl)) dX5_release_2 ⟨Nat.le_of_ble_eq_true rfl, Nat.le_of_ble_eq_true rfl⟩) (fun r1 u H locs hw hP hD hS => ?_)
  obtain ⟨hw, hb1⟩ := hw
  subst hw
  obtain ⟨j2, hJ2⟩ : ∃ z : Int32, z = (if (f_X5_isNode a1) = 0 then (0 : Int32) else (if (f_X5_isNode a2) = 0 then (0 : Int32) else (1 : Int32))) := ⟨_, rfl⟩
  rw [← hJ2] at he
  try dsimp only at he
  have hpJ2 := hp.1
  replace hp := hp.2 _  hJ2.symm
  have kont2 : (j2 = 0 ∨ j2 = 1) → ∀ (H : Heap) (locs : List Loc), va_P D vwCl (W_X5 cI m0 m1 m2 m3 m4 m5 m6 m7 m8 m9 m10 m11 mr mc me mw mh mn mu ms mt md mz mi mk mo mj ml) H → va_D A (W_X5 cI m0 m1 m2 m3 m4 m5 m6 m7 m8 m9 m10 m11 mr mc me mw mh mn mu ms mt md mz mi mk mo mj ml) → va_S A s.heap H locs → ∀ ls : Array Slot, lv_has ls 4 [(0, .ref m0), (1, .int a1), (2, .int a2)] → W p l e (headSpec wsX5_release rm_X5_release).room s m ([.ref m0, .int a1, .int a2] : List Value).toArray below meth c H locs 0 0 (MQ below (Q_X5_release D cI m0 m1 m2 m3 m4 m5 m6 m7 m8 m9 m10 m11 mr mc me mw mh mn mu ms mt md mz mi mk mo mj ml a1 a2 A) ([.ref m0, .int a1, .int a2] : List Value).toArray s 0 0 A) (F0 m 20 ls [.int j2, .ref m0]) := by
    intro hb2 H locs hP hD hS ls hl
    refine lv_iconst (v := 1) hx hb dX5_release_20 (by decide) ?_
    refine k_calli (S := Int32) (wc := (W_X5 cI m0 m1 m2 m3 m4 m5 m6 m7 m8 m9 m10 m11 mr mc me mw mh mn mu ms mt md mz mi mk mo mj ml)) (wr := ([] : va_W)) (w1 := fun u => (W_X5 cI m0 m1 m2 m3 m4 m5 m6 m7 m8 m9 m10 m11 mr mc me mw u mn mu ms mt md mz mi mk mo mj ml)) (fun u => (W_X5 cI m0 m1 m2 m3 m4 m5 m6 m7 m8 m9 m10 m11 mr mc me mw u mn mu ms mt md mz mi mk mo mj ml)) hP hK hD hN hS hA [0, 1, 2, 3, 4, 5, 6, 7, 8, 9, 10, 11] [] rfl rfl (by decide) (by decide) (by decide) [0, 1, 2, 3, 4, 5, 6, 7, 8, 9, 10, 11] (by decide) (fun _ => rfl) (fun hg => va_runV (As := [.int j2, .int 1]) (rest := []) ⟨hx, hb, hml, hown, hts⟩ (c_X5_goes l D cI m0 m1 m2 m3 m4 m5 m6 m7 m8 m9 m10 m11 mr mc me mw mh mn mu ms mt md mz mi mk mo mj ml _ j2 1) (cwV 2 hts gX5_release_X5_goes rfl rfl rfl (by decide +kernel) ⟨Nat.le_of_ble_eq_true rfl, Nat.le_of_ble_eq_true rfl⟩) ⟨PW.blind, va_recv hK hP (ci := 5) (q0 := 0) rfl rfl, fun U hU hW => ⟨rfl, hg U hU hW⟩⟩ rfl rfl hl.1 rfl (lv_room (Nat.le_of_ble_eq_true rfl)) dX5_release_21 ⟨Nat.le_of_ble_eq_true rfl, Nat.le_of_ble_eq_true rfl⟩) (fun r6 u H locs hw hP hD hS => ?_)
    obtain ⟨u6_0, rfl⟩ : ∃ z, z = u := ⟨_, rfl⟩
    obtain ⟨hw, hb6⟩ := hw
    rw [hw] at he
    try dsimp only at he
    replace hp := hp r6 u6_0 hw
    have hP : va_P D vwCl (W_X5 cI m0 m1 m2 m3 m4 m5 m6 m7 m8 m9 m10 m11 mr mc me mw u6_0 mn mu ms mt md mz mi mk mo mj ml) H := hP
    have hD : va_D A (W_X5 cI m0 m1 m2 m3 m4 m5 m6 m7 m8 m9 m10 m11 mr mc me mw u6_0 mn mu ms mt md mz mi mk mo mj ml) := hD
    refine lv_if_ne (tgt := 29) hx hb dX5_release_24 (by decide) (fun c7 => ?_) (fun c7 => ?_)
    · replace hp := hp.2 c7
      replace he := he.trans (if_neg c7)
      refine lv_aload_n hx hb dX5_release_29 rfl (lv_at hl 0 rfl) ?_
      refine va_get (D := D) (ci := 5) (v := .ref m1) (C := RX5) (T := TX5) (N := 16) hx hb hts (by decide +kernel) hown hK hP 0 rfl rfl 0 (by decide) (hts (.fieldLink RX5 7 "AlarmgroveModel" "needs" "[I") (by decide +kernel)) (fun _ h9 => h9) rfl dX5_release_30 ?_
      refine lv_iload_n hx hb dX5_release_33 rfl (lv_at hl 1 rfl) ?_
      have h8 := hp.1
      replace hp := hp.2
      refine va_iald hx hb hK hP 1 0 rfl rfl h8 dX5_release_34 ?_
      refine lv_iload_n hx hb dX5_release_35 rfl (lv_at hl 2 rfl) ?_
      refine k_calli (S := Unit) (wc := ([] : va_W)) (wr := (W_X5 cI m0 m1 m2 m3 m4 m5 m6 m7 m8 m9 m10 m11 mr mc me mw u6_0 mn mu ms mt md mz mi mk mo mj ml)) (w1 := fun u => ([] : va_W)) (fun u => (W_X5 cI m0 m1 m2 m3 m4 m5 m6 m7 m8 m9 m10 m11 mr mc me mw u6_0 mn mu ms mt md mz mi mk mo mj ml)) hP hK hD hN hS hA [] [0, 1, 2, 3, 4, 5, 6, 7, 8, 9, 10, 11] rfl rfl (by decide) (by decide) (by decide) [0, 1, 2, 3, 4, 5, 6, 7, 8, 9, 10, 11] (by decide) (fun _ => rfl) (fun hg => va_runS (As := [.int (mn (a1).toNatClampNeg), .int a2]) (rest := []) ⟨hx, hb, hml, hown, hts⟩ (c_X5_has l D cI _ (mn (a1).toNatClampNeg) a2) (va_cwS 2 hts gX5_release_X5_has rfl rfl rfl (by decide +kernel) ⟨Nat.le_of_ble_eq_true rfl, Nat.le_of_ble_eq_true rfl⟩) ⟨PW.blind, fun U hU hW => ⟨rfl, hg U hU hW⟩⟩ rfl rfl hl.1 rfl (lv_room (Nat.le_of_ble_eq_true rfl)) dX5_release_36 ⟨Nat.le_of_ble_eq_true rfl, Nat.le_of_ble_eq_true rfl⟩) (fun r9 u H locs hw hP hD hS => ?_)
      obtain ⟨hw, hb9⟩ := hw
      subst hw
      refine lv_istore_n (lv' := [(3, .int (f_X5_has (mn (a1).toNatClampNeg) a2)), (0, .ref m0), (1, .int a1), (2, .int a2)]) hx hb dX5_release_39 rfl hl (by decide) rfl (fun ls hl => ?_)
      refine lv_aload_n hx hb dX5_release_40 rfl (lv_at hl 1 rfl) ?_
      refine va_get (D := D) (ci := 5) (v := .ref m1) (C := RX5) (T := TX5) (N := 16) hx hb hts (by decide +kernel) hown hK hP 0 rfl rfl 0 (by decide) (hts (.fieldLink RX5 7 "AlarmgroveModel" "needs" "[I") (by decide +kernel)) (fun _ h9 => h9) rfl dX5_release_41 ?_
      refine lv_iload_n hx hb dX5_release_44 rfl (lv_at hl 2 rfl) ?_
      refine lv_dup2_11 hx hb dX5_release_45 rfl rfl ?_
      have h10 := hp.1
      replace hp := hp.2
      refine va_iald hx hb hK hP 1 0 rfl rfl h10 dX5_release_46 ?_
      refine lv_iconst (v := 1) hx hb dX5_release_47 (by decide) ?_
      refine lv_iload_n hx hb dX5_release_48 rfl (lv_at hl 3 rfl) ?_
      refine lv_ishl hx hb dX5_release_49 ?_
      refine lv_iconst (v := (-1)) hx hb dX5_release_50 (by decide) ?_
      refine lv_ixor hx hb dX5_release_51 ?_
      refine lv_iand hx hb dX5_release_52 ?_
      have h11 := hp.1
      replace hp := hp.2
      refine va_iast hx hb hK hP hD hS 1 0 rfl rfl h11 dX5_release_53 (fun H locs hP hD hS => ?_)
      have hP : va_P D vwCl (W_X5 cI m0 m1 m2 m3 m4 m5 m6 m7 m8 m9 m10 m11 mr mc me mw u6_0 (upd mn (a1).toNatClampNeg ((mn (a1).toNatClampNeg) &&& ((1 <<< (a2 &&& 31)) ^^^ (-1)))) mu ms mt md mz mi mk mo mj ml) H := hP
      have hD : va_D A (W_X5 cI m0 m1 m2 m3 m4 m5 m6 m7 m8 m9 m10 m11 mr mc me mw u6_0 (upd mn (a1).toNatClampNeg ((mn (a1).toNatClampNeg) &&& ((1 <<< (a2 &&& 31)) ^^^ (-1)))) mu ms mt md mz mi mk mo mj ml) := hD
      refine lv_aload_n hx hb dX5_release_54 rfl (lv_at hl 1 rfl) ?_
      have hq12 := hp.1
      replace hp := hp.2
      refine k_callv (S := AA) (wc := (W_X5 cI m0 m1 m2 m3 m4 m5 m6 m7 m8 m9 m10 m11 mr mc me mw u6_0 (upd mn (a1).toNatClampNeg ((mn (a1).toNatClampNeg) &&& ((1 <<< (a2 &&& 31)) ^^^ (-1)))) mu ms mt md mz mi mk mo mj ml)) (wr := ([] : va_W)) (w1 := fun u => (W_X5 cI m0 m1 m2 m3 m4 m5 m6 m7 m8 m9 m10 m11 mr mc me mw u6_0 (upd mn (a1).toNatClampNeg ((mn (a1).toNatClampNeg) &&& ((1 <<< (a2 &&& 31)) ^^^ (-1)))) u ms mt md mz mi mk mo mj ml)) (fun u => (W_X5 cI m0 m1 m2 m3 m4 m5 m6 m7 m8 m9 m10 m11 mr mc me mw u6_0 (upd mn (a1).toNatClampNeg ((mn (a1).toNatClampNeg) &&& ((1 <<< (a2 &&& 31)) ^^^ (-1)))) u ms mt md mz mi mk mo mj ml)) hP hK hD hN hS hA [0, 1, 2, 3, 4, 5, 6, 7, 8, 9, 10, 11] [] rfl rfl (by decide) (by decide) (by decide) [0, 1, 2, 3, 4, 5, 6, 7, 8, 9, 10, 11] (by decide) (fun _ => rfl) (fun hg => va_runV (As := []) (rest := []) ⟨hx, hb, hml, hown, hts⟩ (c_X5_closes l D cI m0 m1 m2 m3 m4 m5 m6 m7 m8 m9 m10 m11 mr mc me mw u6_0 (upd mn (a1).toNatClampNeg ((mn (a1).toNatClampNeg) &&& ((1 <<< (a2 &&& 31)) ^^^ (-1)))) mu ms mt md mz mi mk mo mj ml _ hq12) (cwV 0 hts gX5_release_X5_closes rfl rfl rfl (by decide +kernel) ⟨Nat.le_of_ble_eq_true rfl, Nat.le_of_ble_eq_true rfl⟩) ⟨PW.blind, va_recv hK hP (ci := 5) (q0 := 0) rfl rfl, fun U hU hW => ⟨rfl, hg U hU hW⟩⟩ rfl rfl hl.1 rfl (lv_room (Nat.le_of_ble_eq_true rfl)) dX5_release_55 ⟨Nat.le_of_ble_eq_true rfl, Nat.le_of_ble_eq_true rfl⟩) (fun u H locs hw hP hD hS => ?_)
      obtain ⟨u12_0, rfl⟩ : ∃ z, z = u := ⟨_, rfl⟩
      rw [hw] at he
      replace hp := hp u12_0 hw
      have hP : va_P D vwCl (W_X5 cI m0 m1 m2 m3 m4 m5 m6 m7 m8 m9 m10 m11 mr mc me mw u6_0 (upd mn (a1).toNatClampNeg ((mn (a1).toNatClampNeg) &&& ((1 <<< (a2 &&& 31)) ^^^ (-1)))) u12_0 ms mt md mz mi mk mo mj ml) H := hP
      have hD : va_D A (W_X5 cI m0 m1 m2 m3 m4 m5 m6 m7 m8 m9 m10 m11 mr mc me mw u6_0 (upd mn (a1).toNatClampNeg ((mn (a1).toNatClampNeg) &&& ((1 <<< (a2 &&& 31)) ^^^ (-1)))) u12_0 ms mt md mz mi mk mo mj ml) := hD
      refine lv_iload_n hx hb dX5_release_58 rfl (lv_at hl 0 rfl) ?_
      exact W.zret (ty := .boolean) (v := (f_X5_has (mn (a1).toNatClampNeg) a2)) hx hb hr (by rcases hb9 with h9 | h9 <;> rw [h9] <;> rfl) (fun t ht hW => ⟨⟨(f_X5_has (mn (a1).toNatClampNeg) a2), (u6_0, (upd mn (a1).toNatClampNeg ((mn (a1).toNatClampNeg) &&& ((1 <<< (a2 &&& 31)) ^^^ (-1)))), u12_0), rfl, ⟨he, hb9⟩, by rw [ht]; exact hP, va_K.moved hW.alike hK, hD⟩, hS.F ht⟩) hS.2.2 dX5_release_59
    · replace hp := hp.1 c7
      replace he := he.trans (if_pos c7)
      refine lv_iconst (v := 0) hx hb dX5_release_27 (by decide) ?_
      exact W.zret (ty := .boolean) (v := 0) hx hb hr rfl (fun t ht hW => ⟨⟨0, (u6_0, mn, mu), rfl, ⟨he, (Or.inl rfl)⟩, by rw [ht]; exact hP, va_K.moved hW.alike hK, hD⟩, hS.F ht⟩) hS.2.2 dX5_release_28
  replace he := hJ2
  replace hp := hpJ2
  refine lv_if_eq (tgt := 19) hx hb dX5_release_5 (by decide) (fun c3 => ?_) (fun c3 => ?_)
  · replace hp := hp.1 c3
    replace he := he.trans (if_pos c3)
    refine lv_iconst (v := 0) hx hb dX5_release_19 (by decide) ?_
    subst he
    exact kont2 (Or.inl rfl) _ _ hP hD hS _ (lv_sub hl [0, 1, 2] rfl)
  · replace hp := hp.2 c3
    replace he := he.trans (if_neg c3)
    refine lv_iload_n hx hb dX5_release_8 rfl (lv_at hl 2 rfl) ?_
    refine k_calli (S := Unit) (wc := ([] : va_W)) (wr := (W_X5 cI m0 m1 m2 m3 m4 m5 m6 m7 m8 m9 m10 m11 mr mc me mw mh mn mu ms mt md mz mi mk mo mj ml)) (w1 := fun u => ([] : va_W)) (fun u => (W_X5 cI m0 m1 m2 m3 m4 m5 m6 m7 m8 m9 m10 m11 mr mc me mw mh mn mu ms mt md mz mi mk mo mj ml)) hP hK hD hN hS hA [] [0, 1, 2, 3, 4, 5, 6, 7, 8, 9, 10, 11] rfl rfl (by decide) (by decide) (by decide) [0, 1, 2, 3, 4, 5, 6, 7, 8, 9, 10, 11] (by decide) (fun _ => rfl) (fun hg => va_runS (As := [.int a2]) (rest := [.ref m0]) ⟨hx, hb, hml, hown, hts⟩ (c_X5_isNode l D cI _ a2) (va_cwS 1 hts gX5_release_X5_isNode rfl rfl rfl (by decide +kernel) ⟨Nat.le_of_ble_eq_true rfl, Nat.le_of_ble_eq_true rfl⟩) ⟨PW.blind, fun U hU hW => ⟨rfl, hg U hU hW⟩⟩ rfl rfl hl.1 rfl (lv_room (Nat.le_of_ble_eq_true rfl)) dX5_release_9 ⟨Nat.le_of_ble_eq_true rfl, Nat.le_of_ble_eq_true rfl⟩) (fun r4 u H locs hw hP hD hS => ?_)
    obtain ⟨hw, hb4⟩ := hw
    subst hw
    refine lv_if_eq (tgt := 19) hx hb dX5_release_12 (by decide) (fun c5 => ?_) (fun c5 => ?_)
    · replace hp := hp.1 c5
      replace he := he.trans (if_pos c5)
      refine lv_iconst (v := 0) hx hb dX5_release_19 (by decide) ?_
      subst he
      exact kont2 (Or.inl rfl) _ _ hP hD hS _ (lv_sub hl [0, 1, 2] rfl)
    · replace hp := hp.2 c5
      replace he := he.trans (if_neg c5)
      refine lv_iconst (v := 1) hx hb dX5_release_15 (by decide) ?_
      refine lv_goto (tgt := 20) hx hb dX5_release_16 (by decide) ?_
      subst he
      exact kont2 (Or.inr rfl) _ _ hP hD hS _ (lv_sub hl [0, 1, 2] rfl)
abbrev rm_X5_needs : Room := { frames := 1, cells := 0, slots := 0, locals := 22 }
abbrev Q_X5_needs (D : va_G) (cI : ClassId) (m0 m1 m2 m3 m4 m5 m6 m7 m8 m9 m10 m11 : Nat) (mr : Int32) (mc : Int32) (me : Int32) (mw : Int32) (mh : Int32) (mn : AA) (mu : AA) (ms : AA) (mt : AA) (md : AA) (mz : AA) (mi : AA) (mk : AA) (mo : AA) (mj : AA) (ml : AA) (a1 a2 : Int32) (A : Nat → Prop) : Array Value → State → Outcome → State → Prop := va_Qi (S := Int32) (fun r u => f_X5_needs mn a1 a2 = (r, u) ∧ (r = 0 ∨ r = 1)) (fun u t => QW D [(cI, .int)] A (W_X5 cI m0 m1 m2 m3 m4 m5 m6 m7 m8 m9 m10 m11 mr mc me mw u mn mu ms mt md mz mi mk mo mj ml) t) A
set_option maxHeartbeats 4000000 in
set_option maxRecDepth 100000 in
theorem c_X5_needs (l : Launch)  (D : va_G) (cI : ClassId) (m0 m1 m2 m3 m4 m5 m6 m7 m8 m9 m10 m11 : Nat) (mr : Int32) (mc : Int32) (me : Int32) (mw : Int32) (mh : Int32) (mn : AA) (mu : AA) (ms : AA) (mt : AA) (md : AA) (mz : AA) (mi : AA) (mk : AA) (mo : AA) (mj : AA) (ml : AA) (sz : Nat) (a1 a2 : Int32) (hp : p_X5_needs mn a1 a2) : Met l yX5_needs wsX5_needs rm_X5_needs (va_Pc [.ref m0, .int a1, .int a2] (PW D [(cI, .int)] sz (W_X5 cI m0 m1 m2 m3 m4 m5 m6 m7 m8 m9 m10 m11 mr mc me mw mh mn mu ms mt md mz mi mk mo mj ml))) (Q_X5_needs D cI m0 m1 m2 m3 m4 m5 m6 m7 m8 m9 m10 m11 mr mc me mw mh mn mu ms mt md mz mi mk mo mj ml a1 a2 (va_A (W_X5 cI m0 m1 m2 m3 m4 m5 m6 m7 m8 m9 m10 m11 mr mc me mw mh mn mu ms mt md mz mi mk mo mj ml) sz)) 0 0 (va_A (W_X5 cI m0 m1 m2 m3 m4 m5 m6 m7 m8 m9 m10 m11 mr mc me mw mh mn mu ms mt md mz mi mk mo mj ml) sz) := by
  refine Met.ofW (cc := cX5_needs) (maxL := 3) (ret := (some .boolean)) (by decide) rfl ?_
  intro p e s m args below meth c s₁ B hml hv
  obtain ⟨rfl, hsz, hP, hK, hD0, hN⟩ := hv
  have hx := B.exec
  have hb := B.bytes
  have hr := B.returns
  have hts := atoms_spec (ws := wsX5_needs) B.pre
  have hown : s.vm.findClass RX5 = some m.cls := findClass_of_methodNamed B.named
  have hlocks := B.notSynchronized
  subst hsz
  have hD := hD0.self (sz := s.heap.size)
  generalize hAe : va_A (W_X5 cI m0 m1 m2 m3 m4 m5 m6 m7 m8 m9 m10 m11 mr mc me mw mh mn mu ms mt md mz mi mk mo mj ml) s.heap.size = A at hD ⊢
  have hA : ∀ q : Nat, s.heap.size ≤ q → A q := fun q h => by rw [← hAe]; exact Or.inr h
  have hS : va_S A s.heap s.heap [] := va_S.rf
  have hl := lv_entry ([.ref m0, .int a1, .int a2]) (n := 3) (Nat.le_of_ble_eq_true rfl)
  rw [lg_entry_eq]
  generalize (lg_sl ([.ref m0, .int a1, .int a2]) ++ List.replicate (3 - (lg_sl ([.ref m0, .int a1, .int a2])).length) Slot.unset).toArray = ls at hl ⊢
  have hl : lv_has ls 3 [(0, .ref m0), (1, .int a1), (2, .int a2)] := hl
  have he := f_X5_needs.eq_1 mn a1 a2
  replace hp := Eq.mp (p_X5_needs.eq_1 ..) hp
  refine lv_aload_n hx hb dX5_needs_0 rfl (lv_at hl 0 rfl) ?_
  refine lv_iload_n hx hb dX5_needs_1 rfl (lv_at hl 1 rfl) ?_
  refine k_calli (S := Unit) (wc := ([] : va_W)) (wr := (W_X5 cI m0 m1 m2 m3 m4 m5 m6 m7 m8 m9 m10 m11 mr mc me mw mh mn mu ms mt md mz mi mk mo mj ml)) (w1 := fun u => ([] : va_W)) (fun u => (W_X5 cI m0 m1 m2 m3 m4 m5 m6 m7 m8 m9 m10 m11 mr mc me mw mh mn mu ms mt md mz mi mk mo mj ml)) hP hK hD hN hS hA [] [0, 1, 2, 3, 4, 5, 6, 7, 8, 9, 10, 11] rfl rfl (by decide) (by decide) (by decide) [0, 1, 2, 3, 4, 5, 6, 7, 8, 9, 10, 11] (by decide) (fun _ => rfl) (fun hg => va_runS (As := [.int a1]) (rest := [.ref m0]) ⟨hx, hb, hml, hown, hts⟩ (c_X5_isNode l D cI _ a1) (va_cwS 1 hts gX5_needs_X5_isNode rfl rfl rfl (by decide +kernel) ⟨Nat.le_of_ble_eq_true rfl, Nat.le_of_ble_eq_true rfl⟩) ⟨PW.blind, fun U hU hW => ⟨rfl, hg U hU hW⟩⟩ rfl rfl hl.1 rfl (lv_room (Nat.le_of_ble_eq_true rfl)) dX5_needs_2 ⟨Nat.le_of_ble_eq_true rfl, Nat.le_of_ble_eq_true rfl⟩) (fun r1 u H locs hw hP hD hS => ?_)
  obtain ⟨hw, hb1⟩ := hw
  subst hw
  obtain ⟨j2, hJ2⟩ : ∃ z : Int32, z = (if (f_X5_isNode a1) = 0 then (0 : Int32) else (if (f_X5_isNode a2) = 0 then (0 : Int32) else (1 : Int32))) := ⟨_, rfl⟩
  rw [← hJ2] at he
  try dsimp only at he
  have hpJ2 := hp.1
  replace hp := hp.2 _  hJ2.symm
  have kont2 : (j2 = 0 ∨ j2 = 1) → ∀ (H : Heap) (locs : List Loc), va_P D vwCl (W_X5 cI m0 m1 m2 m3 m4 m5 m6 m7 m8 m9 m10 m11 mr mc me mw mh mn mu ms mt md mz mi mk mo mj ml) H → va_D A (W_X5 cI m0 m1 m2 m3 m4 m5 m6 m7 m8 m9 m10 m11 mr mc me mw mh mn mu ms mt md mz mi mk mo mj ml) → va_S A s.heap H locs → ∀ ls : Array Slot, lv_has ls 3 [(0, .ref m0), (1, .int a1), (2, .int a2)] → W p l e (headSpec wsX5_needs rm_X5_needs).room s m ([.ref m0, .int a1, .int a2] : List Value).toArray below meth c H locs 0 0 (MQ below (Q_X5_needs D cI m0 m1 m2 m3 m4 m5 m6 m7 m8 m9 m10 m11 mr mc me mw mh mn mu ms mt md mz mi mk mo mj ml a1 a2 A) ([.ref m0, .int a1, .int a2] : List Value).toArray s 0 0 A) (F0 m 20 ls [.int j2, .ref m0]) := by
    intro hb2 H locs hP hD hS ls hl
    refine lv_iconst (v := 1) hx hb dX5_needs_20 (by decide) ?_
    refine k_calli (S := Int32) (wc := (W_X5 cI m0 m1 m2 m3 m4 m5 m6 m7 m8 m9 m10 m11 mr mc me mw mh mn mu ms mt md mz mi mk mo mj ml)) (wr := ([] : va_W)) (w1 := fun u => (W_X5 cI m0 m1 m2 m3 m4 m5 m6 m7 m8 m9 m10 m11 mr mc me mw u mn mu ms mt md mz mi mk mo mj ml)) (fun u => (W_X5 cI m0 m1 m2 m3 m4 m5 m6 m7 m8 m9 m10 m11 mr mc me mw u mn mu ms mt md mz mi mk mo mj ml)) hP hK hD hN hS hA [0, 1, 2, 3, 4, 5, 6, 7, 8, 9, 10, 11] [] rfl rfl (by decide) (by decide) (by decide) [0, 1, 2, 3, 4, 5, 6, 7, 8, 9, 10, 11] (by decide) (fun _ => rfl) (fun hg => va_runV (As := [.int j2, .int 1]) (rest := []) ⟨hx, hb, hml, hown, hts⟩ (c_X5_goes l D cI m0 m1 m2 m3 m4 m5 m6 m7 m8 m9 m10 m11 mr mc me mw mh mn mu ms mt md mz mi mk mo mj ml _ j2 1) (cwV 2 hts gX5_needs_X5_goes rfl rfl rfl (by decide +kernel) ⟨Nat.le_of_ble_eq_true rfl, Nat.le_of_ble_eq_true rfl⟩) ⟨PW.blind, va_recv hK hP (ci := 5) (q0 := 0) rfl rfl, fun U hU hW => ⟨rfl, hg U hU hW⟩⟩ rfl rfl hl.1 rfl (lv_room (Nat.le_of_ble_eq_true rfl)) dX5_needs_21 ⟨Nat.le_of_ble_eq_true rfl, Nat.le_of_ble_eq_true rfl⟩) (fun r6 u H locs hw hP hD hS => ?_)
    obtain ⟨u6_0, rfl⟩ : ∃ z, z = u := ⟨_, rfl⟩
    obtain ⟨hw, hb6⟩ := hw
    rw [hw] at he
    try dsimp only at he
    replace hp := hp r6 u6_0 hw
    have hP : va_P D vwCl (W_X5 cI m0 m1 m2 m3 m4 m5 m6 m7 m8 m9 m10 m11 mr mc me mw u6_0 mn mu ms mt md mz mi mk mo mj ml) H := hP
    have hD : va_D A (W_X5 cI m0 m1 m2 m3 m4 m5 m6 m7 m8 m9 m10 m11 mr mc me mw u6_0 mn mu ms mt md mz mi mk mo mj ml) := hD
    obtain ⟨j7, hJ7⟩ : ∃ z : Int32, z = (if r6 = 0 then (0 : Int32) else (if (f_X5_has (mn (a1).toNatClampNeg) a2) = 0 then (0 : Int32) else (1 : Int32))) := ⟨_, rfl⟩
    rw [← hJ7] at he
    try dsimp only at he
    have hpJ7 := hp.1
    replace hp := hp.2 _  hJ7.symm
    have kont7 : (j7 = 0 ∨ j7 = 1) → ∀ (H : Heap) (locs : List Loc), va_P D vwCl (W_X5 cI m0 m1 m2 m3 m4 m5 m6 m7 m8 m9 m10 m11 mr mc me mw u6_0 mn mu ms mt md mz mi mk mo mj ml) H → va_D A (W_X5 cI m0 m1 m2 m3 m4 m5 m6 m7 m8 m9 m10 m11 mr mc me mw u6_0 mn mu ms mt md mz mi mk mo mj ml) → va_S A s.heap H locs → ∀ ls : Array Slot, lv_has ls 3 [] → W p l e (headSpec wsX5_needs rm_X5_needs).room s m ([.ref m0, .int a1, .int a2] : List Value).toArray below meth c H locs 0 0 (MQ below (Q_X5_needs D cI m0 m1 m2 m3 m4 m5 m6 m7 m8 m9 m10 m11 mr mc me mw mh mn mu ms mt md mz mi mk mo mj ml a1 a2 A) ([.ref m0, .int a1, .int a2] : List Value).toArray s 0 0 A) (F0 m 45 ls [.int j7]) := by
      intro hb7 H locs hP hD hS ls hl
      exact W.zret (ty := .boolean) (v := j7) hx hb hr (by rcases hb7 with h9 | h9 <;> rw [h9] <;> rfl) (fun t ht hW => ⟨⟨j7, u6_0, rfl, ⟨he, hb7⟩, by rw [ht]; exact hP, va_K.moved hW.alike hK, hD⟩, hS.F ht⟩) hS.2.2 dX5_needs_45
    replace he := hJ7
    replace hp := hpJ7
    refine lv_if_eq (tgt := 44) hx hb dX5_needs_24 (by decide) (fun c8 => ?_) (fun c8 => ?_)
    · replace hp := hp.1 c8
      replace he := he.trans (if_pos c8)
      refine lv_iconst (v := 0) hx hb dX5_needs_44 (by decide) ?_
      subst he
      exact kont7 (Or.inl rfl) _ _ hP hD hS _ (lv_sub hl [] rfl)
    · replace hp := hp.2 c8
      replace he := he.trans (if_neg c8)
      refine lv_aload_n hx hb dX5_needs_27 rfl (lv_at hl 0 rfl) ?_
      refine va_get (D := D) (ci := 5) (v := .ref m1) (C := RX5) (T := TX5) (N := 16) hx hb hts (by decide +kernel) hown hK hP 0 rfl rfl 0 (by decide) (hts (.fieldLink RX5 7 "AlarmgroveModel" "needs" "[I") (by decide +kernel)) (fun _ h9 => h9) rfl dX5_needs_28 ?_
      refine lv_iload_n hx hb dX5_needs_31 rfl (lv_at hl 1 rfl) ?_
      have h9 := hp.1
      replace hp := hp.2
      refine va_iald hx hb hK hP 1 0 rfl rfl h9 dX5_needs_32 ?_
      refine lv_iload_n hx hb dX5_needs_33 rfl (lv_at hl 2 rfl) ?_
      refine k_calli (S := Unit) (wc := ([] : va_W)) (wr := (W_X5 cI m0 m1 m2 m3 m4 m5 m6 m7 m8 m9 m10 m11 mr mc me mw u6_0 mn mu ms mt md mz mi mk mo mj ml)) (w1 := fun u => ([] : va_W)) (fun u => (W_X5 cI m0 m1 m2 m3 m4 m5 m6 m7 m8 m9 m10 m11 mr mc me mw u6_0 mn mu ms mt md mz mi mk mo mj ml)) hP hK hD hN hS hA [] [0, 1, 2, 3, 4, 5, 6, 7, 8, 9, 10, 11] rfl rfl (by decide) (by decide) (by decide) [0, 1, 2, 3, 4, 5, 6, 7, 8, 9, 10, 11] (by decide) (fun _ => rfl) (fun hg => va_runS (As := [.int (mn (a1).toNatClampNeg), .int a2]) (rest := []) ⟨hx, hb, hml, hown, hts⟩ (c_X5_has l D cI _ (mn (a1).toNatClampNeg) a2) (va_cwS 2 hts gX5_needs_X5_has rfl rfl rfl (by decide +kernel) ⟨Nat.le_of_ble_eq_true rfl, Nat.le_of_ble_eq_true rfl⟩) ⟨PW.blind, fun U hU hW => ⟨rfl, hg U hU hW⟩⟩ rfl rfl hl.1 rfl (lv_room (Nat.le_of_ble_eq_true rfl)) dX5_needs_34 ⟨Nat.le_of_ble_eq_true rfl, Nat.le_of_ble_eq_true rfl⟩) (fun r10 u H locs hw hP hD hS => ?_)
      obtain ⟨hw, hb10⟩ := hw
      subst hw
      refine lv_if_eq (tgt := 44) hx hb dX5_needs_37 (by decide) (fun c11 => ?_) (fun c11 => ?_)
      · replace hp := hp.1 c11
        replace he := he.trans (if_pos c11)
        refine lv_iconst (v := 0) hx hb dX5_needs_44 (by decide) ?_
        subst he
        exact kont7 (Or.inl rfl) _ _ hP hD hS _ (lv_sub hl [] rfl)
      · replace hp := hp.2 c11
        replace he := he.trans (if_neg c11)
        refine lv_iconst (v := 1) hx hb dX5_needs_40 (by decide) ?_
        refine lv_goto (tgt := 45) hx hb dX5_needs_41 (by decide) ?_
        subst he
        exact kont7 (Or.inr rfl) _ _ hP hD hS _ (lv_sub hl [] rfl)
  replace he := hJ2
  replace hp := hpJ2
  refine lv_if_eq (tgt := 19) hx hb dX5_needs_5 (by decide) (fun c3 => ?_) (fun c3 => ?_)
  · replace hp := hp.1 c3
    replace he := he.trans (if_pos c3)
    refine lv_iconst (v := 0) hx hb dX5_needs_19 (by decide) ?_
    subst he
    exact kont2 (Or.inl rfl) _ _ hP hD hS _ (lv_sub hl [0, 1, 2] rfl)
  · replace hp := hp.2 c3
    replace he := he.trans (if_neg c3)
    refine lv_iload_n hx hb dX5_needs_8 rfl (lv_at hl 2 rfl) ?_
    refine k_calli (S := Unit) (wc := ([] : va_W)) (wr := (W_X5 cI m0 m1 m2 m3 m4 m5 m6 m7 m8 m9 m10 m11 mr mc me mw mh mn mu ms mt md mz mi mk mo mj ml)) (w1 := fun u => ([] : va_W)) (fun u => (W_X5 cI m0 m1 m2 m3 m4 m5 m6 m7 m8 m9 m10 m11 mr mc me mw mh mn mu ms mt md mz mi mk mo mj ml)) hP hK hD hN hS hA [] [0, 1, 2, 3, 4, 5, 6, 7, 8, 9, 10, 11] rfl rfl (by decide) (by decide) (by decide) [0, 1, 2, 3, 4, 5, 6, 7, 8, 9, 10, 11] (by decide) (fun _ => rfl) (fun hg => va_runS (As := [.int a2]) (rest := [.ref m0]) ⟨hx, hb, hml, hown, hts⟩ (c_X5_isNode l D cI _ a2) (va_cwS 1 hts gX5_needs_X5_isNode rfl rfl rfl (by decide +kernel) ⟨Nat.le_of_ble_eq_true rfl, Nat.le_of_ble_eq_true rfl⟩) ⟨PW.blind, fun U hU hW => ⟨rfl, hg U hU hW⟩⟩ rfl rfl hl.1 rfl (lv_room (Nat.le_of_ble_eq_true rfl)) dX5_needs_9 ⟨Nat.le_of_ble_eq_true rfl, Nat.le_of_ble_eq_true rfl⟩) (fun r4 u H locs hw hP hD hS => ?_)
    obtain ⟨hw, hb4⟩ := hw
    subst hw
    refine lv_if_eq (tgt := 19) hx hb dX5_needs_12 (by decide) (fun c5 => ?_) (fun c5 => ?_)
    · replace hp := hp.1 c5
      replace he := he.trans (if_pos c5)
      refine lv_iconst (v := 0) hx hb dX5_needs_19 (by decide) ?_
      subst he
      exact kont2 (Or.inl rfl) _ _ hP hD hS _ (lv_sub hl [0, 1, 2] rfl)
    · replace hp := hp.2 c5
      replace he := he.trans (if_neg c5)
      refine lv_iconst (v := 1) hx hb dX5_needs_15 (by decide) ?_
      refine lv_goto (tgt := 20) hx hb dX5_needs_16 (by decide) ?_
      subst he
      exact kont2 (Or.inr rfl) _ _ hP hD hS _ (lv_sub hl [0, 1, 2] rfl)
abbrev rm_X5_dependsOn : Room := { frames := 1, cells := 0, slots := 0, locals := 22 }
abbrev Q_X5_dependsOn (D : va_G) (cI : ClassId) (m0 m1 m2 m3 m4 m5 m6 m7 m8 m9 m10 m11 : Nat) (mr : Int32) (mc : Int32) (me : Int32) (mw : Int32) (mh : Int32) (mn : AA) (mu : AA) (ms : AA) (mt : AA) (md : AA) (mz : AA) (mi : AA) (mk : AA) (mo : AA) (mj : AA) (ml : AA) (a1 a2 : Int32) (A : Nat → Prop) : Array Value → State → Outcome → State → Prop := va_Qi (S := Int32) (fun r u => f_X5_dependsOn mu a1 a2 = (r, u) ∧ (r = 0 ∨ r = 1)) (fun u t => QW D [(cI, .int)] A (W_X5 cI m0 m1 m2 m3 m4 m5 m6 m7 m8 m9 m10 m11 mr mc me mw u mn mu ms mt md mz mi mk mo mj ml) t) A
set_option maxHeartbeats 4000000 in
set_option maxRecDepth 100000 in
theorem c_X5_dependsOn (l : Launch)  (D : va_G) (cI : ClassId) (m0 m1 m2 m3 m4 m5 m6 m7 m8 m9 m10 m11 : Nat) (mr : Int32) (mc : Int32) (me : Int32) (mw : Int32) (mh : Int32) (mn : AA) (mu : AA) (ms : AA) (mt : AA) (md : AA) (mz : AA) (mi : AA) (mk : AA) (mo : AA) (mj : AA) (ml : AA) (sz : Nat) (a1 a2 : Int32) (hp : p_X5_dependsOn mu a1 a2) : Met l yX5_dependsOn wsX5_dependsOn rm_X5_dependsOn (va_Pc [.ref m0, .int a1, .int a2] (PW D [(cI, .int)] sz (W_X5 cI m0 m1 m2 m3 m4 m5 m6 m7 m8 m9 m10 m11 mr mc me mw mh mn mu ms mt md mz mi mk mo mj ml))) (Q_X5_dependsOn D cI m0 m1 m2 m3 m4 m5 m6 m7 m8 m9 m10 m11 mr mc me mw mh mn mu ms mt md mz mi mk mo mj ml a1 a2 (va_A (W_X5 cI m0 m1 m2 m3 m4 m5 m6 m7 m8 m9 m10 m11 mr mc me mw mh mn mu ms mt md mz mi mk mo mj ml) sz)) 0 0 (va_A (W_X5 cI m0 m1 m2 m3 m4 m5 m6 m7 m8 m9 m10 m11 mr mc me mw mh mn mu ms mt md mz mi mk mo mj ml) sz) := by
  refine Met.ofW (cc := cX5_dependsOn) (maxL := 3) (ret := (some .boolean)) (by decide) rfl ?_
  intro p e s m args below meth c s₁ B hml hv
  obtain ⟨rfl, hsz, hP, hK, hD0, hN⟩ := hv
  have hx := B.exec
  have hb := B.bytes
  have hr := B.returns
  have hts := atoms_spec (ws := wsX5_dependsOn) B.pre
  have hown : s.vm.findClass RX5 = some m.cls := findClass_of_methodNamed B.named
  have hlocks := B.notSynchronized
  subst hsz
  have hD := hD0.self (sz := s.heap.size)
  generalize hAe : va_A (W_X5 cI m0 m1 m2 m3 m4 m5 m6 m7 m8 m9 m10 m11 mr mc me mw mh mn mu ms mt md mz mi mk mo mj ml) s.heap.size = A at hD ⊢
  have hA : ∀ q : Nat, s.heap.size ≤ q → A q := fun q h => by rw [← hAe]; exact Or.inr h
  have hS : va_S A s.heap s.heap [] := va_S.rf
  have hl := lv_entry ([.ref m0, .int a1, .int a2]) (n := 3) (Nat.le_of_ble_eq_true rfl)
  rw [lg_entry_eq]
  generalize (lg_sl ([.ref m0, .int a1, .int a2]) ++ List.replicate (3 - (lg_sl ([.ref m0, .int a1, .int a2])).length) Slot.unset).toArray = ls at hl ⊢
  have hl : lv_has ls 3 [(0, .ref m0), (1, .int a1), (2, .int a2)] := hl
  have he := f_X5_dependsOn.eq_1 mu a1 a2
  replace hp := Eq.mp (p_X5_dependsOn.eq_1 ..) hp
  refine lv_aload_n hx hb dX5_dependsOn_0 rfl (lv_at hl 0 rfl) ?_
  refine lv_iload_n hx hb dX5_dependsOn_1 rfl (lv_at hl 1 rfl) ?_
  refine k_calli (S := Unit) (wc := ([] : va_W)) (wr := (W_X5 cI m0 m1 m2 m3 m4 m5 m6 m7 m8 m9 m10 m11 mr mc me mw mh mn mu ms mt md mz mi mk mo mj ml)) (w1 := fun u => ([] : va_W)) (fun u => (W_X5 cI m0 m1 m2 m3 m4 m5 m6 m7 m8 m9 m10 m11 mr mc me mw mh mn mu ms mt md mz mi mk mo mj ml)) hP hK hD hN hS hA [] [0, 1, 2, 3, 4, 5, 6, 7, 8, 9, 10, 11] rfl rfl (by decide) (by decide) (by decide) [0, 1, 2, 3, 4, 5, 6, 7, 8, 9, 10, 11] (by decide) (fun _ => rfl) (fun hg => va_runS (As := [.int a1]) (rest := [.ref m0]) ⟨hx, hb, hml, hown, hts⟩ (c_X5_isNode l D cI _ a1) (va_cwS 1 hts gX5_dependsOn_X5_isNode rfl rfl rfl (by decide +kernel) ⟨Nat.le_of_ble_eq_true rfl, Nat.le_of_ble_eq_true rfl⟩) ⟨PW.blind, fun U hU hW => ⟨rfl, hg U hU hW⟩⟩ rfl rfl hl.1 rfl (lv_room (Nat.le_of_ble_eq_true rfl)) dX5_dependsOn_2 ⟨Nat.le_of_ble_eq_true rfl, Nat.le_of_ble_eq_true rfl⟩) (fun r1 u H locs hw hP hD hS => ?_)
  obtain ⟨hw, hb1⟩ := hw
  subst hw
  obtain ⟨j2, hJ2⟩ : ∃ z : Int32, z = (if (f_X5_isNode a1) = 0 then (0 : Int32) else (if (f_X5_isNode a2) = 0 then (0 : Int32) else (1 : Int32))) := ⟨_, rfl⟩
  rw [← hJ2] at he
  try dsimp only at he
  have hpJ2 := hp.1
  replace hp := hp.2 _  hJ2.symm
  have kont2 : (j2 = 0 ∨ j2 = 1) → ∀ (H : Heap) (locs : List Loc), va_P D vwCl (W_X5 cI m0 m1 m2 m3 m4 m5 m6 m7 m8 m9 m10 m11 mr mc me mw mh mn mu ms mt md mz mi mk mo mj ml) H → va_D A (W_X5 cI m0 m1 m2 m3 m4 m5 m6 m7 m8 m9 m10 m11 mr mc me mw mh mn mu ms mt md mz mi mk mo mj ml) → va_S A s.heap H locs → ∀ ls : Array Slot, lv_has ls 3 [(0, .ref m0), (1, .int a1), (2, .int a2)] → W p l e (headSpec wsX5_dependsOn rm_X5_dependsOn).room s m ([.ref m0, .int a1, .int a2] : List Value).toArray below meth c H locs 0 0 (MQ below (Q_X5_dependsOn D cI m0 m1 m2 m3 m4 m5 m6 m7 m8 m9 m10 m11 mr mc me mw mh mn mu ms mt md mz mi mk mo mj ml a1 a2 A) ([.ref m0, .int a1, .int a2] : List Value).toArray s 0 0 A) (F0 m 20 ls [.int j2, .ref m0]) := by
    intro hb2 H locs hP hD hS ls hl
    refine lv_iconst (v := 1) hx hb dX5_dependsOn_20 (by decide) ?_
    refine k_calli (S := Int32) (wc := (W_X5 cI m0 m1 m2 m3 m4 m5 m6 m7 m8 m9 m10 m11 mr mc me mw mh mn mu ms mt md mz mi mk mo mj ml)) (wr := ([] : va_W)) (w1 := fun u => (W_X5 cI m0 m1 m2 m3 m4 m5 m6 m7 m8 m9 m10 m11 mr mc me mw u mn mu ms mt md mz mi mk mo mj ml)) (fun u => (W_X5 cI m0 m1 m2 m3 m4 m5 m6 m7 m8 m9 m10 m11 mr mc me mw u mn mu ms mt md mz mi mk mo mj ml)) hP hK hD hN hS hA [0, 1, 2, 3, 4, 5, 6, 7, 8, 9, 10, 11] [] rfl rfl (by decide) (by decide) (by decide) [0, 1, 2, 3, 4, 5, 6, 7, 8, 9, 10, 11] (by decide) (fun _ => rfl) (fun hg => va_runV (As := [.int j2, .int 1]) (rest := []) ⟨hx, hb, hml, hown, hts⟩ (c_X5_goes l D cI m0 m1 m2 m3 m4 m5 m6 m7 m8 m9 m10 m11 mr mc me mw mh mn mu ms mt md mz mi mk mo mj ml _ j2 1) (cwV 2 hts gX5_dependsOn_X5_goes rfl rfl rfl (by decide +kernel) ⟨Nat.le_of_ble_eq_true rfl, Nat.le_of_ble_eq_true rfl⟩) ⟨PW.blind, va_recv hK hP (ci := 5) (q0 := 0) rfl rfl, fun U hU hW => ⟨rfl, hg U hU hW⟩⟩ rfl rfl hl.1 rfl (lv_room (Nat.le_of_ble_eq_true rfl)) dX5_dependsOn_21 ⟨Nat.le_of_ble_eq_true rfl, Nat.le_of_ble_eq_true rfl⟩) (fun r6 u H locs hw hP hD hS => ?_)
    obtain ⟨u6_0, rfl⟩ : ∃ z, z = u := ⟨_, rfl⟩
    obtain ⟨hw, hb6⟩ := hw
    rw [hw] at he
    try dsimp only at he
    replace hp := hp r6 u6_0 hw
    have hP : va_P D vwCl (W_X5 cI m0 m1 m2 m3 m4 m5 m6 m7 m8 m9 m10 m11 mr mc me mw u6_0 mn mu ms mt md mz mi mk mo mj ml) H := hP
    have hD : va_D A (W_X5 cI m0 m1 m2 m3 m4 m5 m6 m7 m8 m9 m10 m11 mr mc me mw u6_0 mn mu ms mt md mz mi mk mo mj ml) := hD
    obtain ⟨j7, hJ7⟩ : ∃ z : Int32, z = (if r6 = 0 then (0 : Int32) else (if (f_X5_has (mu (a1).toNatClampNeg) a2) = 0 then (0 : Int32) else (1 : Int32))) := ⟨_, rfl⟩
    rw [← hJ7] at he
    try dsimp only at he
    have hpJ7 := hp.1
    replace hp := hp.2 _  hJ7.symm
    have kont7 : (j7 = 0 ∨ j7 = 1) → ∀ (H : Heap) (locs : List Loc), va_P D vwCl (W_X5 cI m0 m1 m2 m3 m4 m5 m6 m7 m8 m9 m10 m11 mr mc me mw u6_0 mn mu ms mt md mz mi mk mo mj ml) H → va_D A (W_X5 cI m0 m1 m2 m3 m4 m5 m6 m7 m8 m9 m10 m11 mr mc me mw u6_0 mn mu ms mt md mz mi mk mo mj ml) → va_S A s.heap H locs → ∀ ls : Array Slot, lv_has ls 3 [] → W p l e (headSpec wsX5_dependsOn rm_X5_dependsOn).room s m ([.ref m0, .int a1, .int a2] : List Value).toArray below meth c H locs 0 0 (MQ below (Q_X5_dependsOn D cI m0 m1 m2 m3 m4 m5 m6 m7 m8 m9 m10 m11 mr mc me mw mh mn mu ms mt md mz mi mk mo mj ml a1 a2 A) ([.ref m0, .int a1, .int a2] : List Value).toArray s 0 0 A) (F0 m 45 ls [.int j7]) := by
      intro hb7 H locs hP hD hS ls hl
      exact W.zret (ty := .boolean) (v := j7) hx hb hr (by rcases hb7 with h9 | h9 <;> rw [h9] <;> rfl) (fun t ht hW => ⟨⟨j7, u6_0, rfl, ⟨he, hb7⟩, by rw [ht]; exact hP, va_K.moved hW.alike hK, hD⟩, hS.F ht⟩) hS.2.2 dX5_dependsOn_45
    replace he := hJ7
    replace hp := hpJ7
    refine lv_if_eq (tgt := 44) hx hb dX5_dependsOn_24 (by decide) (fun c8 => ?_) (fun c8 => ?_)
    · replace hp := hp.1 c8
      replace he := he.trans (if_pos c8)
      refine lv_iconst (v := 0) hx hb dX5_dependsOn_44 (by decide) ?_
      subst he
      exact kont7 (Or.inl rfl) _ _ hP hD hS _ (lv_sub hl [] rfl)
    · replace hp := hp.2 c8
      replace he := he.trans (if_neg c8)
      refine lv_aload_n hx hb dX5_dependsOn_27 rfl (lv_at hl 0 rfl) ?_
      refine va_get (D := D) (ci := 5) (v := .ref m2) (C := RX5) (T := TX5) (N := 16) hx hb hts (by decide +kernel) hown hK hP 0 rfl rfl 1 (by decide) (hts (.fieldLink RX5 13 "AlarmgroveModel" "under" "[I") (by decide +kernel)) (fun _ h9 => h9) rfl dX5_dependsOn_28 ?_
      refine lv_iload_n hx hb dX5_dependsOn_31 rfl (lv_at hl 1 rfl) ?_
      have h9 := hp.1
      replace hp := hp.2
      refine va_iald hx hb hK hP 2 0 rfl rfl h9 dX5_dependsOn_32 ?_
      refine lv_iload_n hx hb dX5_dependsOn_33 rfl (lv_at hl 2 rfl) ?_
      refine k_calli (S := Unit) (wc := ([] : va_W)) (wr := (W_X5 cI m0 m1 m2 m3 m4 m5 m6 m7 m8 m9 m10 m11 mr mc me mw u6_0 mn mu ms mt md mz mi mk mo mj ml)) (w1 := fun u => ([] : va_W)) (fun u => (W_X5 cI m0 m1 m2 m3 m4 m5 m6 m7 m8 m9 m10 m11 mr mc me mw u6_0 mn mu ms mt md mz mi mk mo mj ml)) hP hK hD hN hS hA [] [0, 1, 2, 3, 4, 5, 6, 7, 8, 9, 10, 11] rfl rfl (by decide) (by decide) (by decide) [0, 1, 2, 3, 4, 5, 6, 7, 8, 9, 10, 11] (by decide) (fun _ => rfl) (fun hg => va_runS (As := [.int (mu (a1).toNatClampNeg), .int a2]) (rest := []) ⟨hx, hb, hml, hown, hts⟩ (c_X5_has l D cI _ (mu (a1).toNatClampNeg) a2) (va_cwS 2 hts gX5_dependsOn_X5_has rfl rfl rfl (by decide +kernel) ⟨Nat.le_of_ble_eq_true rfl, Nat.le_of_ble_eq_true rfl⟩) ⟨PW.blind, fun U hU hW => ⟨rfl, hg U hU hW⟩⟩ rfl rfl hl.1 rfl (lv_room (Nat.le_of_ble_eq_true rfl)) dX5_dependsOn_34 ⟨Nat.le_of_ble_eq_true rfl, Nat.le_of_ble_eq_true rfl⟩) (fun r10 u H locs hw hP hD hS => ?_)
      obtain ⟨hw, hb10⟩ := hw
      subst hw
      refine lv_if_eq (tgt := 44) hx hb dX5_dependsOn_37 (by decide) (fun c11 => ?_) (fun c11 => ?_)
      · replace hp := hp.1 c11
        replace he := he.trans (if_pos c11)
        refine lv_iconst (v := 0) hx hb dX5_dependsOn_44 (by decide) ?_
        subst he
        exact kont7 (Or.inl rfl) _ _ hP hD hS _ (lv_sub hl [] rfl)
      · replace hp := hp.2 c11
        replace he := he.trans (if_neg c11)
        refine lv_iconst (v := 1) hx hb dX5_dependsOn_40 (by decide) ?_
        refine lv_goto (tgt := 45) hx hb dX5_dependsOn_41 (by decide) ?_
        subst he
        exact kont7 (Or.inr rfl) _ _ hP hD hS _ (lv_sub hl [] rfl)
  replace he := hJ2
  replace hp := hpJ2
  refine lv_if_eq (tgt := 19) hx hb dX5_dependsOn_5 (by decide) (fun c3 => ?_) (fun c3 => ?_)
  · replace hp := hp.1 c3
    replace he := he.trans (if_pos c3)
    refine lv_iconst (v := 0) hx hb dX5_dependsOn_19 (by decide) ?_
    subst he
    exact kont2 (Or.inl rfl) _ _ hP hD hS _ (lv_sub hl [0, 1, 2] rfl)
  · replace hp := hp.2 c3
    replace he := he.trans (if_neg c3)
    refine lv_iload_n hx hb dX5_dependsOn_8 rfl (lv_at hl 2 rfl) ?_
    refine k_calli (S := Unit) (wc := ([] : va_W)) (wr := (W_X5 cI m0 m1 m2 m3 m4 m5 m6 m7 m8 m9 m10 m11 mr mc me mw mh mn mu ms mt md mz mi mk mo mj ml)) (w1 := fun u => ([] : va_W)) (fun u => (W_X5 cI m0 m1 m2 m3 m4 m5 m6 m7 m8 m9 m10 m11 mr mc me mw mh mn mu ms mt md mz mi mk mo mj ml)) hP hK hD hN hS hA [] [0, 1, 2, 3, 4, 5, 6, 7, 8, 9, 10, 11] rfl rfl (by decide) (by decide) (by decide) [0, 1, 2, 3, 4, 5, 6, 7, 8, 9, 10, 11] (by decide) (fun _ => rfl) (fun hg => va_runS (As := [.int a2]) (rest := [.ref m0]) ⟨hx, hb, hml, hown, hts⟩ (c_X5_isNode l D cI _ a2) (va_cwS 1 hts gX5_dependsOn_X5_isNode rfl rfl rfl (by decide +kernel) ⟨Nat.le_of_ble_eq_true rfl, Nat.le_of_ble_eq_true rfl⟩) ⟨PW.blind, fun U hU hW => ⟨rfl, hg U hU hW⟩⟩ rfl rfl hl.1 rfl (lv_room (Nat.le_of_ble_eq_true rfl)) dX5_dependsOn_9 ⟨Nat.le_of_ble_eq_true rfl, Nat.le_of_ble_eq_true rfl⟩) (fun r4 u H locs hw hP hD hS => ?_)
    obtain ⟨hw, hb4⟩ := hw
    subst hw
    refine lv_if_eq (tgt := 19) hx hb dX5_dependsOn_12 (by decide) (fun c5 => ?_) (fun c5 => ?_)
    · replace hp := hp.1 c5
      replace he := he.trans (if_pos c5)
      refine lv_iconst (v := 0) hx hb dX5_dependsOn_19 (by decide) ?_
      subst he
      exact kont2 (Or.inl rfl) _ _ hP hD hS _ (lv_sub hl [0, 1, 2] rfl)
    · replace hp := hp.2 c5
      replace he := he.trans (if_neg c5)
      refine lv_iconst (v := 1) hx hb dX5_dependsOn_15 (by decide) ?_
      refine lv_goto (tgt := 20) hx hb dX5_dependsOn_16 (by decide) ?_
      subst he
      exact kont2 (Or.inr rfl) _ _ hP hD hS _ (lv_sub hl [0, 1, 2] rfl)
abbrev rm_X5_height : Room := { frames := 1, cells := 0, slots := 0, locals := 22 }
abbrev Q_X5_height (D : va_G) (cI : ClassId) (m0 m1 m2 m3 m4 m5 m6 m7 m8 m9 m10 m11 : Nat) (mr : Int32) (mc : Int32) (me : Int32) (mw : Int32) (mh : Int32) (mn : AA) (mu : AA) (ms : AA) (mt : AA) (md : AA) (mz : AA) (mi : AA) (mk : AA) (mo : AA) (mj : AA) (ml : AA) (a1 : Int32) (A : Nat → Prop) : Array Value → State → Outcome → State → Prop := va_Qi (S := Int32) (fun r u => f_X5_height mn a1 = (r, u)) (fun u t => QW D [(cI, .int)] A (W_X5 cI m0 m1 m2 m3 m4 m5 m6 m7 m8 m9 m10 m11 mr mc me mw u mn mu ms mt md mz mi mk mo mj ml) t) A
set_option maxHeartbeats 4000000 in
set_option maxRecDepth 100000 in
theorem c_X5_height (l : Launch)  (D : va_G) (cI : ClassId) (m0 m1 m2 m3 m4 m5 m6 m7 m8 m9 m10 m11 : Nat) (mr : Int32) (mc : Int32) (me : Int32) (mw : Int32) (mh : Int32) (mn : AA) (mu : AA) (ms : AA) (mt : AA) (md : AA) (mz : AA) (mi : AA) (mk : AA) (mo : AA) (mj : AA) (ml : AA) (sz : Nat) (a1 : Int32) (hp : p_X5_height mn a1) : Met l yX5_height wsX5_height rm_X5_height (va_Pc [.ref m0, .int a1] (PW D [(cI, .int)] sz (W_X5 cI m0 m1 m2 m3 m4 m5 m6 m7 m8 m9 m10 m11 mr mc me mw mh mn mu ms mt md mz mi mk mo mj ml))) (Q_X5_height D cI m0 m1 m2 m3 m4 m5 m6 m7 m8 m9 m10 m11 mr mc me mw mh mn mu ms mt md mz mi mk mo mj ml a1 (va_A (W_X5 cI m0 m1 m2 m3 m4 m5 m6 m7 m8 m9 m10 m11 mr mc me mw mh mn mu ms mt md mz mi mk mo mj ml) sz)) 0 0 (va_A (W_X5 cI m0 m1 m2 m3 m4 m5 m6 m7 m8 m9 m10 m11 mr mc me mw mh mn mu ms mt md mz mi mk mo mj ml) sz) := by
  refine Met.ofW (cc := cX5_height) (maxL := 6) (ret := (some .int)) (by decide) rfl ?_
  intro p e s m args below meth c s₁ B hml hv
  obtain ⟨rfl, hsz, hP, hK, hD0, hN⟩ := hv
  have hx := B.exec
  have hb := B.bytes
  have hr := B.returns
  have hts := atoms_spec (ws := wsX5_height) B.pre
  have hown : s.vm.findClass RX5 = some m.cls := findClass_of_methodNamed B.named
  have hlocks := B.notSynchronized
  subst hsz
  have hD := hD0.self (sz := s.heap.size)
  generalize hAe : va_A (W_X5 cI m0 m1 m2 m3 m4 m5 m6 m7 m8 m9 m10 m11 mr mc me mw mh mn mu ms mt md mz mi mk mo mj ml) s.heap.size = A at hD ⊢
  have hA : ∀ q : Nat, s.heap.size ≤ q → A q := fun q h => by rw [← hAe]; exact Or.inr h
  have hS : va_S A s.heap s.heap [] := va_S.rf
  have hl := lv_entry ([.ref m0, .int a1]) (n := 6) (Nat.le_of_ble_eq_true rfl)
  rw [lg_entry_eq]
  generalize (lg_sl ([.ref m0, .int a1]) ++ List.replicate (6 - (lg_sl ([.ref m0, .int a1])).length) Slot.unset).toArray = ls at hl ⊢
  have hl : lv_has ls 6 [(0, .ref m0), (1, .int a1)] := hl
  have he := f_X5_height.eq_1 mn a1
  replace hp := Eq.mp (p_X5_height.eq_1 ..) hp
  refine lv_aload_n hx hb dX5_height_0 rfl (lv_at hl 0 rfl) ?_
  refine lv_iload_n hx hb dX5_height_1 rfl (lv_at hl 1 rfl) ?_
  refine k_calli (S := Unit) (wc := ([] : va_W)) (wr := (W_X5 cI m0 m1 m2 m3 m4 m5 m6 m7 m8 m9 m10 m11 mr mc me mw mh mn mu ms mt md mz mi mk mo mj ml)) (w1 := fun u => ([] : va_W)) (fun u => (W_X5 cI m0 m1 m2 m3 m4 m5 m6 m7 m8 m9 m10 m11 mr mc me mw mh mn mu ms mt md mz mi mk mo mj ml)) hP hK hD hN hS hA [] [0, 1, 2, 3, 4, 5, 6, 7, 8, 9, 10, 11] rfl rfl (by decide) (by decide) (by decide) [0, 1, 2, 3, 4, 5, 6, 7, 8, 9, 10, 11] (by decide) (fun _ => rfl) (fun hg => va_runS (As := [.int a1]) (rest := [.ref m0]) ⟨hx, hb, hml, hown, hts⟩ (c_X5_isNode l D cI _ a1) (va_cwS 1 hts gX5_height_X5_isNode rfl rfl rfl (by decide +kernel) ⟨Nat.le_of_ble_eq_true rfl, Nat.le_of_ble_eq_true rfl⟩) ⟨PW.blind, fun U hU hW => ⟨rfl, hg U hU hW⟩⟩ rfl rfl hl.1 rfl (lv_room (Nat.le_of_ble_eq_true rfl)) dX5_height_2 ⟨Nat.le_of_ble_eq_true rfl, Nat.le_of_ble_eq_true rfl⟩) (fun r1 u H locs hw hP hD hS => ?_)
  obtain ⟨hw, hb1⟩ := hw
  subst hw
  refine lv_iconst (v := 1) hx hb dX5_height_5 (by decide) ?_
  refine k_calli (S := Int32) (wc := (W_X5 cI m0 m1 m2 m3 m4 m5 m6 m7 m8 m9 m10 m11 mr mc me mw mh mn mu ms mt md mz mi mk mo mj ml)) (wr := ([] : va_W)) (w1 := fun u => (W_X5 cI m0 m1 m2 m3 m4 m5 m6 m7 m8 m9 m10 m11 mr mc me mw u mn mu ms mt md mz mi mk mo mj ml)) (fun u => (W_X5 cI m0 m1 m2 m3 m4 m5 m6 m7 m8 m9 m10 m11 mr mc me mw u mn mu ms mt md mz mi mk mo mj ml)) hP hK hD hN hS hA [0, 1, 2, 3, 4, 5, 6, 7, 8, 9, 10, 11] [] rfl rfl (by decide) (by decide) (by decide) [0, 1, 2, 3, 4, 5, 6, 7, 8, 9, 10, 11] (by decide) (fun _ => rfl) (fun hg => va_runV (As := [.int (f_X5_isNode a1), .int 1]) (rest := []) ⟨hx, hb, hml, hown, hts⟩ (c_X5_goes l D cI m0 m1 m2 m3 m4 m5 m6 m7 m8 m9 m10 m11 mr mc me mw mh mn mu ms mt md mz mi mk mo mj ml _ (f_X5_isNode a1) 1) (cwV 2 hts gX5_height_X5_goes rfl rfl rfl (by decide +kernel) ⟨Nat.le_of_ble_eq_true rfl, Nat.le_of_ble_eq_true rfl⟩) ⟨PW.blind, va_recv hK hP (ci := 5) (q0 := 0) rfl rfl, fun U hU hW => ⟨rfl, hg U hU hW⟩⟩ rfl rfl hl.1 rfl (lv_room (Nat.le_of_ble_eq_true rfl)) dX5_height_6 ⟨Nat.le_of_ble_eq_true rfl, Nat.le_of_ble_eq_true rfl⟩) (fun r2 u H locs hw hP hD hS => ?_)
  obtain ⟨u2_0, rfl⟩ : ∃ z, z = u := ⟨_, rfl⟩
  obtain ⟨hw, hb2⟩ := hw
  rw [hw] at he
  try dsimp only at he
  replace hp := hp r2 u2_0 hw
  have hP : va_P D vwCl (W_X5 cI m0 m1 m2 m3 m4 m5 m6 m7 m8 m9 m10 m11 mr mc me mw u2_0 mn mu ms mt md mz mi mk mo mj ml) H := hP
  have hD : va_D A (W_X5 cI m0 m1 m2 m3 m4 m5 m6 m7 m8 m9 m10 m11 mr mc me mw u2_0 mn mu ms mt md mz mi mk mo mj ml) := hD
  refine lv_if_ne (tgt := 14) hx hb dX5_height_9 (by decide) (fun c3 => ?_) (fun c3 => ?_)
  · replace hp := hp.2 c3
    replace he := he.trans (if_neg c3)
    refine lv_iconst (v := 1) hx hb dX5_height_14 (by decide) ?_
    refine lv_iload_n hx hb dX5_height_15 rfl (lv_at hl 1 rfl) ?_
    refine lv_ishl hx hb dX5_height_16 ?_
    refine lv_istore_n (lv' := [(2, .int (1 <<< (a1 &&& 31))), (0, .ref m0), (1, .int a1)]) hx hb dX5_height_17 rfl hl (by decide) rfl (fun ls hl => ?_)
    refine lv_iconst (v := (-1)) hx hb dX5_height_18 (by decide) ?_
    refine lv_istore_n (lv' := [(3, .int (-1)), (2, .int (1 <<< (a1 &&& 31))), (0, .ref m0), (1, .int a1)]) hx hb dX5_height_19 rfl hl (by decide) rfl (fun ls hl => ?_)
    obtain ⟨⟨r4_v20_2, r4_v20_3⟩, hL4⟩ : ∃ z, z = f_X5_height_L20 mn 16 (1 <<< (a1 &&& 31)) ((-1) : Int32) := ⟨_, rfl⟩
    rw [← hL4] at he
    try dsimp only at he
    have hpL4 := hp.1
    replace hp := hp.2 _ _ hL4.symm
    have kont4 : ∀ (x4_v20_2 : Int32) (x4_v20_3 : Int32), (r4_v20_2, r4_v20_3) = (x4_v20_2, x4_v20_3) → ∀ (H : Heap) (locs : List Loc), va_P D vwCl (W_X5 cI m0 m1 m2 m3 m4 m5 m6 m7 m8 m9 m10 m11 mr mc me mw u2_0 mn mu ms mt md mz mi mk mo mj ml) H → va_D A (W_X5 cI m0 m1 m2 m3 m4 m5 m6 m7 m8 m9 m10 m11 mr mc me mw u2_0 mn mu ms mt md mz mi mk mo mj ml) → va_S A s.heap H locs → ∀ ls : Array Slot, lv_has ls 6 [(3, .int x4_v20_3)] → W p l e (headSpec wsX5_height rm_X5_height).room s m ([.ref m0, .int a1] : List Value).toArray below meth c H locs 0 0 (MQ below (Q_X5_height D cI m0 m1 m2 m3 m4 m5 m6 m7 m8 m9 m10 m11 mr mc me mw mh mn mu ms mt md mz mi mk mo mj ml a1 A) ([.ref m0, .int a1] : List Value).toArray s 0 0 A) (F0 m 77 ls []) := by
      intro x4_v20_2 x4_v20_3 hxe H locs hP hD hS ls hl
      simp only [Prod.mk.injEq] at hxe
      obtain ⟨rfl, rfl⟩ := hxe
      refine lv_iload_n hx hb dX5_height_77 rfl (lv_at hl 0 rfl) ?_
      exact W.iret (v := r4_v20_3) hx hb hr (fun t ht hW => ⟨⟨r4_v20_3, u2_0, rfl, he, by rw [ht]; exact hP, va_K.moved hW.alike hK, hD⟩, hS.F ht⟩) hS.2.2 dX5_height_78
    have loop4 : ∀ (n : Nat) (v20_2 : Int32) (v20_3 : Int32), p_X5_height_L20 mn n v20_2 v20_3 → (r4_v20_2, r4_v20_3) = f_X5_height_L20 mn n v20_2 v20_3 → ∀ (H : Heap) (locs : List Loc), va_P D vwCl (W_X5 cI m0 m1 m2 m3 m4 m5 m6 m7 m8 m9 m10 m11 mr mc me mw u2_0 mn mu ms mt md mz mi mk mo mj ml) H → va_D A (W_X5 cI m0 m1 m2 m3 m4 m5 m6 m7 m8 m9 m10 m11 mr mc me mw u2_0 mn mu ms mt md mz mi mk mo mj ml) → va_S A s.heap H locs → ∀ ls : Array Slot, lv_has ls 6 [(3, .int v20_3), (2, .int v20_2), (0, .ref m0)] → W p l e (headSpec wsX5_height rm_X5_height).room s m ([.ref m0, .int a1] : List Value).toArray below meth c H locs 0 0 (MQ below (Q_X5_height D cI m0 m1 m2 m3 m4 m5 m6 m7 m8 m9 m10 m11 mr mc me mw mh mn mu ms mt md mz mi mk mo mj ml a1 A) ([.ref m0, .int a1] : List Value).toArray s 0 0 A) (F0 m 20 ls []) := by
      intro n
      induction n with
      | zero => exact fun _ _ hp => hp.elim
      | succ n ih =>
        intro v20_2 v20_3 hp he H locs hP hD hS ls hl
        replace hp := Eq.mp (p_X5_height_L20.eq_2 ..) hp
        replace he := he.trans (f_X5_height_L20.eq_2 ..)
        refine lv_iload_n hx hb dX5_height_20 rfl (lv_at hl 1 rfl) ?_
        refine lv_if_eq (tgt := 77) hx hb dX5_height_21 (by decide) (fun c5 => ?_) (fun c5 => ?_)
        · replace hp := hp.1 c5
          replace he := he.trans (if_pos c5)
          exact kont4 _ _ he _ _ hP hD hS _ (lv_sub hl [0] rfl)
        · replace hp := hp.2 c5
          replace he := he.trans (if_neg c5)
          refine lv_iconst (v := 0) hx hb dX5_height_24 (by decide) ?_
          refine lv_istore (lv' := [(4, .int 0), (3, .int v20_3), (2, .int v20_2), (0, .ref m0)]) hx hb dX5_height_25 hl (by decide) rfl (fun ls hl => ?_)
          refine lv_iconst (v := 0) hx hb dX5_height_27 (by decide) ?_
          refine lv_istore (lv' := [(5, .int 0), (4, .int 0), (3, .int v20_3), (2, .int v20_2), (0, .ref m0)]) hx hb dX5_height_28 hl (by decide) rfl (fun ls hl => ?_)
          obtain ⟨⟨r6_v30_4, r6_v30_5⟩, hL6⟩ : ∃ z, z = f_X5_height_L30 mn v20_2 15 (0 : Int32) (0 : Int32) := ⟨_, rfl⟩
          rw [← hL6] at he
          try dsimp only at he
          have hpL6 := hp.1
          replace hp := hp.2 _ _ hL6.symm
          have kont6 : ∀ (x6_v30_4 : Int32) (x6_v30_5 : Int32), (r6_v30_4, r6_v30_5) = (x6_v30_4, x6_v30_5) → ∀ (H : Heap) (locs : List Loc), va_P D vwCl (W_X5 cI m0 m1 m2 m3 m4 m5 m6 m7 m8 m9 m10 m11 mr mc me mw u2_0 mn mu ms mt md mz mi mk mo mj ml) H → va_D A (W_X5 cI m0 m1 m2 m3 m4 m5 m6 m7 m8 m9 m10 m11 mr mc me mw u2_0 mn mu ms mt md mz mi mk mo mj ml) → va_S A s.heap H locs → ∀ ls : Array Slot, lv_has ls 6 [(4, .int x6_v30_4), (3, .int v20_3), (0, .ref m0)] → W p l e (headSpec wsX5_height rm_X5_height).room s m ([.ref m0, .int a1] : List Value).toArray below meth c H locs 0 0 (MQ below (Q_X5_height D cI m0 m1 m2 m3 m4 m5 m6 m7 m8 m9 m10 m11 mr mc me mw mh mn mu ms mt md mz mi mk mo mj ml a1 A) ([.ref m0, .int a1] : List Value).toArray s 0 0 A) (F0 m 68 ls []) := by
            intro x6_v30_4 x6_v30_5 hxe H locs hP hD hS ls hl
            simp only [Prod.mk.injEq] at hxe
            obtain ⟨rfl, rfl⟩ := hxe
            refine lv_iload hx hb dX5_height_68 (lv_at hl 0 rfl) ?_
            refine lv_istore_n (lv' := [(2, .int r6_v30_4), (4, .int r6_v30_4), (3, .int v20_3), (0, .ref m0)]) hx hb dX5_height_70 rfl hl (by decide) rfl (fun ls hl => ?_)
            refine lv_iinc (v := (v20_3 + 1)) (lv' := [(3, .int (v20_3 + 1)), (2, .int r6_v30_4), (4, .int r6_v30_4), (0, .ref m0)]) hx hb dX5_height_71 hl (k := 2) rfl rfl (by decide) rfl (fun ls hl => ?_)
            refine lv_goto (tgt := 20) hx hb dX5_height_74 (by decide) ?_
            exact ih _ _ hp he _ _ hP hD hS _ (lv_sub hl [0, 1, 3] rfl)
          have loop6 : ∀ (n : Nat) (v30_4 : Int32) (v30_5 : Int32), p_X5_height_L30 mn v20_2 n v30_4 v30_5 → (r6_v30_4, r6_v30_5) = f_X5_height_L30 mn v20_2 n v30_4 v30_5 → ∀ (H : Heap) (locs : List Loc), va_P D vwCl (W_X5 cI m0 m1 m2 m3 m4 m5 m6 m7 m8 m9 m10 m11 mr mc me mw u2_0 mn mu ms mt md mz mi mk mo mj ml) H → va_D A (W_X5 cI m0 m1 m2 m3 m4 m5 m6 m7 m8 m9 m10 m11 mr mc me mw u2_0 mn mu ms mt md mz mi mk mo mj ml) → va_S A s.heap H locs → ∀ ls : Array Slot, lv_has ls 6 [(5, .int v30_5), (4, .int v30_4), (3, .int v20_3), (2, .int v20_2), (0, .ref m0)] → W p l e (headSpec wsX5_height rm_X5_height).room s m ([.ref m0, .int a1] : List Value).toArray below meth c H locs 0 0 (MQ below (Q_X5_height D cI m0 m1 m2 m3 m4 m5 m6 m7 m8 m9 m10 m11 mr mc me mw mh mn mu ms mt md mz mi mk mo mj ml a1 A) ([.ref m0, .int a1] : List Value).toArray s 0 0 A) (F0 m 30 ls []) := by
            intro n
            induction n with
            | zero => exact fun _ _ hp => hp.elim
            | succ n ih =>
              intro v30_4 v30_5 hp he H locs hP hD hS ls hl
              replace hp := Eq.mp (p_X5_height_L30.eq_2 ..) hp
              replace he := he.trans (f_X5_height_L30.eq_2 ..)
              refine lv_iload hx hb dX5_height_30 (lv_at hl 0 rfl) ?_
              refine lv_bipush (v := 14) hx hb dX5_height_32 (by decide) ?_
              refine lv_icmp_ge (tgt := 68) hx hb dX5_height_34 (by decide) (fun c7 => ?_) (fun c7 => ?_)
              · replace hp := hp.1 c7
                replace he := he.trans (if_pos c7)
                exact kont6 _ _ he _ _ hP hD hS _ (lv_sub hl [1, 2, 4] rfl)
              · replace hp := hp.2 c7
                replace he := he.trans (if_neg c7)
                refine lv_iload hx hb dX5_height_37 (lv_at hl 1 rfl) ?_
                refine lv_iload_n hx hb dX5_height_39 rfl (lv_at hl 3 rfl) ?_
                refine lv_iload hx hb dX5_height_40 (lv_at hl 0 rfl) ?_
                refine k_calli (S := Unit) (wc := ([] : va_W)) (wr := (W_X5 cI m0 m1 m2 m3 m4 m5 m6 m7 m8 m9 m10 m11 mr mc me mw u2_0 mn mu ms mt md mz mi mk mo mj ml)) (w1 := fun u => ([] : va_W)) (fun u => (W_X5 cI m0 m1 m2 m3 m4 m5 m6 m7 m8 m9 m10 m11 mr mc me mw u2_0 mn mu ms mt md mz mi mk mo mj ml)) hP hK hD hN hS hA [] [0, 1, 2, 3, 4, 5, 6, 7, 8, 9, 10, 11] rfl rfl (by decide) (by decide) (by decide) [0, 1, 2, 3, 4, 5, 6, 7, 8, 9, 10, 11] (by decide) (fun _ => rfl) (fun hg => va_runS (As := [.int v20_2, .int v30_5]) (rest := [.int v30_4]) ⟨hx, hb, hml, hown, hts⟩ (c_X5_has l D cI _ v20_2 v30_5) (va_cwS 2 hts gX5_height_X5_has rfl rfl rfl (by decide +kernel) ⟨Nat.le_of_ble_eq_true rfl, Nat.le_of_ble_eq_true rfl⟩) ⟨PW.blind, fun U hU hW => ⟨rfl, hg U hU hW⟩⟩ rfl rfl hl.1 rfl (lv_room (Nat.le_of_ble_eq_true rfl)) dX5_height_42 ⟨Nat.le_of_ble_eq_true rfl, Nat.le_of_ble_eq_true rfl⟩) (fun r8 u H locs hw hP hD hS => ?_)
                obtain ⟨hw, hb8⟩ := hw
                subst hw
                obtain ⟨j9, hJ9⟩ : ∃ z : Int32, z = (if (f_X5_has v20_2 v30_5) = 0 then (0 : Int32) else (mn (v30_5).toNatClampNeg)) := ⟨_, rfl⟩
                rw [← hJ9] at he
                try dsimp only at he
                have hpJ9 := hp.1
                replace hp := hp.2 _  hJ9.symm
                have kont9 : ∀ (H : Heap) (locs : List Loc), va_P D vwCl (W_X5 cI m0 m1 m2 m3 m4 m5 m6 m7 m8 m9 m10 m11 mr mc me mw u2_0 mn mu ms mt md mz mi mk mo mj ml) H → va_D A (W_X5 cI m0 m1 m2 m3 m4 m5 m6 m7 m8 m9 m10 m11 mr mc me mw u2_0 mn mu ms mt md mz mi mk mo mj ml) → va_S A s.heap H locs → ∀ ls : Array Slot, lv_has ls 6 [(5, .int v30_5), (3, .int v20_3), (2, .int v20_2), (0, .ref m0)] → W p l e (headSpec wsX5_height rm_X5_height).room s m ([.ref m0, .int a1] : List Value).toArray below meth c H locs 0 0 (MQ below (Q_X5_height D cI m0 m1 m2 m3 m4 m5 m6 m7 m8 m9 m10 m11 mr mc me mw mh mn mu ms mt md mz mi mk mo mj ml a1 A) ([.ref m0, .int a1] : List Value).toArray s 0 0 A) (F0 m 59 ls [.int j9, .int v30_4]) := by
                  intro H locs hP hD hS ls hl
                  refine lv_ior hx hb dX5_height_59 ?_
                  refine lv_istore (lv' := [(4, .int (v30_4 ||| j9)), (5, .int v30_5), (3, .int v20_3), (2, .int v20_2), (0, .ref m0)]) hx hb dX5_height_60 hl (by decide) rfl (fun ls hl => ?_)
                  refine lv_iinc (v := (v30_5 + 1)) (lv' := [(5, .int (v30_5 + 1)), (4, .int (v30_4 ||| j9)), (3, .int v20_3), (2, .int v20_2), (0, .ref m0)]) hx hb dX5_height_62 hl (k := 1) rfl rfl (by decide) rfl (fun ls hl => ?_)
                  refine lv_goto (tgt := 30) hx hb dX5_height_65 (by decide) ?_
                  exact ih _ _ hp he _ _ hP hD hS _ (lv_sub hl [0, 1, 2, 3, 4] rfl)
                replace he := hJ9
                replace hp := hpJ9
                refine lv_if_eq (tgt := 58) hx hb dX5_height_45 (by decide) (fun c10 => ?_) (fun c10 => ?_)
                · replace hp := hp.1 c10
                  replace he := he.trans (if_pos c10)
                  refine lv_iconst (v := 0) hx hb dX5_height_58 (by decide) ?_
                  subst he
                  exact kont9 _ _ hP hD hS _ (lv_sub hl [0, 2, 3, 4] rfl)
                · replace hp := hp.2 c10
                  replace he := he.trans (if_neg c10)
                  refine lv_aload_n hx hb dX5_height_48 rfl (lv_at hl 4 rfl) ?_
                  refine va_get (D := D) (ci := 5) (v := .ref m1) (C := RX5) (T := TX5) (N := 16) hx hb hts (by decide +kernel) hown hK hP 0 rfl rfl 0 (by decide) (hts (.fieldLink RX5 7 "AlarmgroveModel" "needs" "[I") (by decide +kernel)) (fun _ h9 => h9) rfl dX5_height_49 ?_
                  refine lv_iload hx hb dX5_height_52 (lv_at hl 0 rfl) ?_
                  have h11 := hp.1
                  replace hp := hp.2
                  refine va_iald hx hb hK hP 1 0 rfl rfl h11 dX5_height_54 ?_
                  refine lv_goto (tgt := 59) hx hb dX5_height_55 (by decide) ?_
                  subst he
                  exact kont9 _ _ hP hD hS _ (lv_sub hl [0, 2, 3, 4] rfl)
          exact loop6 15 (0 : Int32) (0 : Int32) hpL6 hL6 _ _ hP hD hS _ (lv_sub hl [0, 1, 2, 3, 4] rfl)
    exact loop4 16 (1 <<< (a1 &&& 31)) ((-1) : Int32) hpL4 hL4 _ _ hP hD hS _ (lv_sub hl [0, 1, 2] rfl)
  · replace hp := hp.1 c3
    replace he := he.trans (if_pos c3)
    refine lv_iconst (v := 0) hx hb dX5_height_12 (by decide) ?_
    exact W.iret (v := 0) hx hb hr (fun t ht hW => ⟨⟨0, u2_0, rfl, he, by rw [ht]; exact hP, va_K.moved hW.alike hK, hD⟩, hS.F ht⟩) hS.2.2 dX5_height_13
