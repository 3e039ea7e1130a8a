set_option maxHeartbeats 40000000 in
set_option maxRecDepth 100000 in
theorem law_walk {p : Program} {e : Env} {s : State} {m : MethodId} {below : List Frame} {meth : Method} {c : Code} (l : Launch) (hst : l.stackTraces = false) {b0 L : Nat} {xs : Nat → Int32} (hL : L ≤ 1536) (C0 : lw_At p s m meth c b0 L xs) (hN : NB s) (hXB : XB (fun q => s.heap.size ≤ q) s s.heap) (D : va_G) (cI : ClassId) (hK : va_K D vwCl [(cI, .int)] s) (he : (1 : Int32) = f_L_law xs L) (hp : p_L_law xs L) : W p l e room_1 s m #[Value.ref b0] below meth c s.heap [] 0 0 (lw_Z below #[Value.ref b0] s) (entryFrame m ([Value.ref b0] : List Value).toArray 7) := by
  obtain ⟨hx, hb, hr, hml, hown, hts, hX, hbl, hlocks, hgv⟩ := id C0
  have hts := fun w h => hts w (wsL_law_in w h)
  have hown : s.vm.findClass RL = some m.cls := hown
  obtain ⟨A, hAe⟩ : ∃ A : Nat → Prop, A = fun q => s.heap.size ≤ q := ⟨_, rfl⟩
  rw [← hAe] at hXB
  have hA : ∀ q : Nat, s.heap.size ≤ q → A q := fun q h => by rw [hAe]; exact h
  have hAle : ∀ q : Nat, A q → s.heap.size ≤ q := fun q h => by rw [hAe] at h; exact h
  have hbA : ¬ A b0 := fun h => Nat.not_le.mpr hbl (hAle _ h)
  have hS : va_S A s.heap s.heap [] := va_S.rf
  have hP : va_P D vwCl [] s.heap := fun k q h => by simp at h
  have hD : va_D A [] := ⟨fun i j p q h => by simp at h, fun k q h => by simp at h⟩
  have hl := lv_entry ([.ref b0]) (n := 7) (Nat.le_of_ble_eq_true rfl)
  rw [lg_entry_eq]
  generalize (lg_sl ([.ref b0]) ++ List.replicate (7 - (lg_sl ([.ref b0])).length) Slot.unset).toArray = ls at hl ⊢
  have hl : lv_has ls 7 [(0, .ref b0)] := hl
  replace he := he.trans (f_L_law.eq_1 ..)
  replace hp := Eq.mp (p_L_law.eq_1 ..) hp
  refine va_new (ci := 4) (fs := [.null, .null, .null, .int 0, .int 0]) (C := RX4) (T := TX4) (N := 5) hx hb hts (by decide +kernel) tyX4 tyX4_ok hown (hts (.classLink RL 8 RX4) (by decide +kernel)) (hts (.instantiable RX4 5) (by decide +kernel)) (hts (.initialized RX4) (by decide +kernel)) hK hP hD hS hA rfl (fun j hj => by rcases (show j = 0 ∨ j = 1 ∨ j = 2 ∨ j = 3 ∨ j = 4 by omega) with rfl | rfl | rfl | rfl | rfl <;> rfl) (Nat.le_of_ble_eq_true rfl) (Nat.le_of_ble_eq_true rfl) dL_law_0 (fun q0 H hP hD hS => ?_)
  have hP : va_P D vwCl [(q0, .inr (4, [.null, .null, .null, .int 0, .int 0]))] H := hP
  have hD : va_D A [(q0, .inr (4, [.null, .null, .null, .int 0, .int 0]))] := hD
  refine lv_dup hx hb dL_law_3 rfl ?_
  have hq1 := hp.1
  replace hp := hp.2
  refine k_callv (S := (AA × AA × AA × AA × Int32 × AA × AA × AA × AA × AA × Int32 × AA × AA × AA) × (Nat × Nat × Nat × Nat × Nat × Nat × Nat × Nat × Nat × Nat × Nat × Nat × Nat × Nat × Nat)) (wc := [(q0, .inr (4, [.null, .null, .null, .int 0, .int 0]))]) (wr := ([] : va_W)) (w1 := fun u => (W_X4 cI q0 u.2.1 u.2.2.1 u.2.2.2.1 u.2.2.2.2.1 u.2.2.2.2.2.1 u.2.2.2.2.2.2.1 u.2.2.2.2.2.2.2.1 u.2.2.2.2.2.2.2.2.1 u.2.2.2.2.2.2.2.2.2.1 u.2.2.2.2.2.2.2.2.2.2.1 u.2.2.2.2.2.2.2.2.2.2.2.1 u.2.2.2.2.2.2.2.2.2.2.2.2.1 u.2.2.2.2.2.2.2.2.2.2.2.2.2.1 u.2.2.2.2.2.2.2.2.2.2.2.2.2.2.1 u.2.2.2.2.2.2.2.2.2.2.2.2.2.2.2 0 0 u.1.1 u.1.2.1 u.1.2.2.1 u.1.2.2.2.1 u.1.2.2.2.2.1 u.1.2.2.2.2.2.1 u.1.2.2.2.2.2.2.1 u.1.2.2.2.2.2.2.2.1 u.1.2.2.2.2.2.2.2.2.1 u.1.2.2.2.2.2.2.2.2.2.1 u.1.2.2.2.2.2.2.2.2.2.2.1 u.1.2.2.2.2.2.2.2.2.2.2.2.1 u.1.2.2.2.2.2.2.2.2.2.2.2.2.1 u.1.2.2.2.2.2.2.2.2.2.2.2.2.2)) (fun u => (W_X4 cI q0 u.2.1 u.2.2.1 u.2.2.2.1 u.2.2.2.2.1 u.2.2.2.2.2.1 u.2.2.2.2.2.2.1 u.2.2.2.2.2.2.2.1 u.2.2.2.2.2.2.2.2.1 u.2.2.2.2.2.2.2.2.2.1 u.2.2.2.2.2.2.2.2.2.2.1 u.2.2.2.2.2.2.2.2.2.2.2.1 u.2.2.2.2.2.2.2.2.2.2.2.2.1 u.2.2.2.2.2.2.2.2.2.2.2.2.2.1 u.2.2.2.2.2.2.2.2.2.2.2.2.2.2.1 u.2.2.2.2.2.2.2.2.2.2.2.2.2.2.2 0 0 u.1.1 u.1.2.1 u.1.2.2.1 u.1.2.2.2.1 u.1.2.2.2.2.1 u.1.2.2.2.2.2.1 u.1.2.2.2.2.2.2.1 u.1.2.2.2.2.2.2.2.1 u.1.2.2.2.2.2.2.2.2.1 u.1.2.2.2.2.2.2.2.2.2.1 u.1.2.2.2.2.2.2.2.2.2.2.1 u.1.2.2.2.2.2.2.2.2.2.2.2.1 u.1.2.2.2.2.2.2.2.2.2.2.2.2.1 u.1.2.2.2.2.2.2.2.2.2.2.2.2.2)) hP hK hD hN hS hA [0] [] rfl rfl (by decide) (by decide) (by decide) [0, 1, 2, 3, 4, 5, 6, 7, 8, 9, 10, 11, 12, 13, 14, 15] (by decide) (fun _ => rfl) (fun hg => va_runI (As := []) (rest := [.ref q0]) ⟨hx, hb, hml, hown, hts⟩ (c_X4_init l D cI q0 _ hq1) (cwI 0 hts gL_law_X4_init rfl rfl rfl (hts (.initialized RX4) (by decide +kernel)) (hts (.methodLink RL 82 yX4_init) (by decide +kernel)) (hts (.instanceMethod yX4_init) (by decide +kernel)) rfl (by decide +kernel) ⟨Nat.le_of_ble_eq_true rfl, Nat.le_of_ble_eq_true rfl⟩) ⟨PW.blind, fun U hU hW => ⟨rfl, hg U hU hW⟩⟩ rfl rfl hl.1 rfl (lv_room (Nat.le_of_ble_eq_true rfl)) dL_law_4 ⟨(show 1 + 15 ≤ 601024 from by omega), (show 5 + 1900 ≤ 7293034 from by omega)⟩) (fun u H locs hw hP hD hS => ?_)
  obtain ⟨⟨u1_0, u1_1, u1_2, u1_3, u1_4, u1_5, u1_6, u1_7, u1_8, u1_9, u1_10, u1_11, u1_12, u1_13⟩, ⟨n1_0, n1_1, n1_2, n1_3, n1_4, n1_5, n1_6, n1_7, n1_8, n1_9, n1_10, n1_11, n1_12, n1_13, n1_14⟩⟩ := u
  try dsimp only at hw
  rw [hw] at he
  try dsimp only at he
  replace hp := hp u1_0 u1_1 u1_2 u1_3 u1_4 u1_5 u1_6 u1_7 u1_8 u1_9 u1_10 u1_11 u1_12 u1_13 hw
  have hP : va_P D vwCl (W_X4 cI q0 n1_0 n1_1 n1_2 n1_3 n1_4 n1_5 n1_6 n1_7 n1_8 n1_9 n1_10 n1_11 n1_12 n1_13 n1_14 0 0 u1_0 u1_1 u1_2 u1_3 u1_4 u1_5 u1_6 u1_7 u1_8 u1_9 u1_10 u1_11 u1_12 u1_13) H := hP
  have hD : va_D A (W_X4 cI q0 n1_0 n1_1 n1_2 n1_3 n1_4 n1_5 n1_6 n1_7 n1_8 n1_9 n1_10 n1_11 n1_12 n1_13 n1_14 0 0 u1_0 u1_1 u1_2 u1_3 u1_4 u1_5 u1_6 u1_7 u1_8 u1_9 u1_10 u1_11 u1_12 u1_13) := hD
  refine lv_astore_n (lv' := [(1, .ref q0), (0, .ref b0)]) hx hb dL_law_7 rfl hl (by decide) rfl (fun ls hl => ?_)
  refine va_new (ci := 5) (fs := [.null, .null, .int 0, .null, .null, .null, .null, .null, .int 0, .null, .null, .null, .null, .int 0, .int 0, .int 0]) (C := RX5) (T := TX5) (N := 16) hx hb hts (by decide +kernel) tyX5 tyX5_ok hown (hts (.classLink RL 83 RX5) (by decide +kernel)) (hts (.instantiable RX5 16) (by decide +kernel)) (hts (.initialized RX5) (by decide +kernel)) hK hP hD hS hA rfl (fun j hj => by rcases (show j = 0 ∨ j = 1 ∨ j = 2 ∨ j = 3 ∨ j = 4 ∨ j = 5 ∨ j = 6 ∨ j = 7 ∨ j = 8 ∨ j = 9 ∨ j = 10 ∨ j = 11 ∨ j = 12 ∨ j = 13 ∨ j = 14 ∨ j = 15 by omega) with rfl | rfl | rfl | rfl | rfl | rfl | rfl | rfl | rfl | rfl | rfl | rfl | rfl | rfl | rfl | rfl <;> rfl) (Nat.le_of_ble_eq_true rfl) (Nat.le_of_ble_eq_true rfl) dL_law_8 (fun q8 H hP hD hS => ?_)
  have hP : va_P D vwCl ((W_X4 cI q0 n1_0 n1_1 n1_2 n1_3 n1_4 n1_5 n1_6 n1_7 n1_8 n1_9 n1_10 n1_11 n1_12 n1_13 n1_14 0 0 u1_0 u1_1 u1_2 u1_3 u1_4 u1_5 u1_6 u1_7 u1_8 u1_9 u1_10 u1_11 u1_12 u1_13) ++ [(q8, .inr (5, [.null, .null, .int 0, .null, .null, .null, .null, .null, .int 0, .null, .null, .null, .null, .int 0, .int 0, .int 0]))]) H := hP
  have hD : va_D A ((W_X4 cI q0 n1_0 n1_1 n1_2 n1_3 n1_4 n1_5 n1_6 n1_7 n1_8 n1_9 n1_10 n1_11 n1_12 n1_13 n1_14 0 0 u1_0 u1_1 u1_2 u1_3 u1_4 u1_5 u1_6 u1_7 u1_8 u1_9 u1_10 u1_11 u1_12 u1_13) ++ [(q8, .inr (5, [.null, .null, .int 0, .null, .null, .null, .null, .null, .int 0, .null, .null, .null, .null, .int 0, .int 0, .int 0]))]) := hD
  refine lv_dup hx hb dL_law_11 rfl ?_
  refine k_callv (S := (AA × AA × AA × AA × AA × AA × AA × AA × AA × AA × AA) × (Nat × Nat × Nat × Nat × Nat × Nat × Nat × Nat × Nat × Nat × Nat)) (wc := [(q8, .inr (5, [.null, .null, .int 0, .null, .null, .null, .null, .null, .int 0, .null, .null, .null, .null, .int 0, .int 0, .int 0]))]) (wr := (W_X4 cI q0 n1_0 n1_1 n1_2 n1_3 n1_4 n1_5 n1_6 n1_7 n1_8 n1_9 n1_10 n1_11 n1_12 n1_13 n1_14 0 0 u1_0 u1_1 u1_2 u1_3 u1_4 u1_5 u1_6 u1_7 u1_8 u1_9 u1_10 u1_11 u1_12 u1_13)) (w1 := fun u => (W_X5 cI q8 u.2.1 u.2.2.1 u.2.2.2.1 u.2.2.2.2.1 u.2.2.2.2.2.1 u.2.2.2.2.2.2.1 u.2.2.2.2.2.2.2.1 u.2.2.2.2.2.2.2.2.1 u.2.2.2.2.2.2.2.2.2.1 u.2.2.2.2.2.2.2.2.2.2.1 u.2.2.2.2.2.2.2.2.2.2.2 0 0 0 0 0 u.1.1 u.1.2.1 u.1.2.2.1 u.1.2.2.2.1 u.1.2.2.2.2.1 u.1.2.2.2.2.2.1 u.1.2.2.2.2.2.2.1 u.1.2.2.2.2.2.2.2.1 u.1.2.2.2.2.2.2.2.2.1 u.1.2.2.2.2.2.2.2.2.2.1 u.1.2.2.2.2.2.2.2.2.2.2)) (fun u => ((W_X4 cI q0 n1_0 n1_1 n1_2 n1_3 n1_4 n1_5 n1_6 n1_7 n1_8 n1_9 n1_10 n1_11 n1_12 n1_13 n1_14 0 0 u1_0 u1_1 u1_2 u1_3 u1_4 u1_5 u1_6 u1_7 u1_8 u1_9 u1_10 u1_11 u1_12 u1_13) ++ (W_X5 cI q8 u.2.1 u.2.2.1 u.2.2.2.1 u.2.2.2.2.1 u.2.2.2.2.2.1 u.2.2.2.2.2.2.1 u.2.2.2.2.2.2.2.1 u.2.2.2.2.2.2.2.2.1 u.2.2.2.2.2.2.2.2.2.1 u.2.2.2.2.2.2.2.2.2.2.1 u.2.2.2.2.2.2.2.2.2.2.2 0 0 0 0 0 u.1.1 u.1.2.1 u.1.2.2.1 u.1.2.2.2.1 u.1.2.2.2.2.1 u.1.2.2.2.2.2.1 u.1.2.2.2.2.2.2.1 u.1.2.2.2.2.2.2.2.1 u.1.2.2.2.2.2.2.2.2.1 u.1.2.2.2.2.2.2.2.2.2.1 u.1.2.2.2.2.2.2.2.2.2.2))) hP hK hD hN hS hA [16] [0, 1, 2, 3, 4, 5, 6, 7, 8, 9, 10, 11, 12, 13, 14, 15] rfl rfl (by decide) (by decide) (by decide) [0, 1, 2, 3, 4, 5, 6, 7, 8, 9, 10, 11, 12, 13, 14, 15, 16, 17, 18, 19, 20, 21, 22, 23, 24, 25, 26, 27] (by decide) (fun _ => rfl) (fun hg => va_runI (As := []) (rest := [.ref q8]) ⟨hx, hb, hml, hown, hts⟩ (c_X5_init l D cI q8 _ ) (cwI 0 hts gL_law_X5_init rfl rfl rfl (hts (.initialized RX5) (by decide +kernel)) (hts (.methodLink RL 85 yX5_init) (by decide +kernel)) (hts (.instanceMethod yX5_init) (by decide +kernel)) rfl (by decide +kernel) ⟨Nat.le_of_ble_eq_true rfl, Nat.le_of_ble_eq_true rfl⟩) ⟨PW.blind, fun U hU hW => ⟨rfl, hg U hU hW⟩⟩ rfl rfl hl.1 rfl (lv_room (Nat.le_of_ble_eq_true rfl)) dL_law_12 ⟨(show 17 + 11 ≤ 601024 from by omega), (show 1921 + 2162 ≤ 7293034 from by omega)⟩) (fun u H locs hw hP hD hS => ?_)
  obtain ⟨⟨u2_0, u2_1, u2_2, u2_3, u2_4, u2_5, u2_6, u2_7, u2_8, u2_9, u2_10⟩, ⟨n2_0, n2_1, n2_2, n2_3, n2_4, n2_5, n2_6, n2_7, n2_8, n2_9, n2_10⟩⟩ := u
  try dsimp only at hw
  rw [hw] at he
  try dsimp only at he
  replace hp := hp u2_0 u2_1 u2_2 u2_3 u2_4 u2_5 u2_6 u2_7 u2_8 u2_9 u2_10 hw
  have hP : va_P D vwCl ((W_X4 cI q0 n1_0 n1_1 n1_2 n1_3 n1_4 n1_5 n1_6 n1_7 n1_8 n1_9 n1_10 n1_11 n1_12 n1_13 n1_14 0 0 u1_0 u1_1 u1_2 u1_3 u1_4 u1_5 u1_6 u1_7 u1_8 u1_9 u1_10 u1_11 u1_12 u1_13) ++ (W_X5 cI q8 n2_0 n2_1 n2_2 n2_3 n2_4 n2_5 n2_6 n2_7 n2_8 n2_9 n2_10 0 0 0 0 0 u2_0 u2_1 u2_2 u2_3 u2_4 u2_5 u2_6 u2_7 u2_8 u2_9 u2_10)) H := hP
  have hD : va_D A ((W_X4 cI q0 n1_0 n1_1 n1_2 n1_3 n1_4 n1_5 n1_6 n1_7 n1_8 n1_9 n1_10 n1_11 n1_12 n1_13 n1_14 0 0 u1_0 u1_1 u1_2 u1_3 u1_4 u1_5 u1_6 u1_7 u1_8 u1_9 u1_10 u1_11 u1_12 u1_13) ++ (W_X5 cI q8 n2_0 n2_1 n2_2 n2_3 n2_4 n2_5 n2_6 n2_7 n2_8 n2_9 n2_10 0 0 0 0 0 u2_0 u2_1 u2_2 u2_3 u2_4 u2_5 u2_6 u2_7 u2_8 u2_9 u2_10)) := hD
  refine lv_astore_n (lv' := [(2, .ref q8), (1, .ref q0), (0, .ref b0)]) hx hb dL_law_15 rfl hl (by decide) rfl (fun ls hl => ?_)
  refine lv_iconst (v := 1) hx hb dL_law_16 (by decide) ?_
  refine va_newa (atype := .long) (ty := .long) (a0 := (1, .inr (.inl (fun _ => 0)))) hx hb (hts (.arrayClass .long) (by decide +kernel)) rfl hK hP hD hS hA (fun cA => rfl) (by decide) (by decide) (by decide) (Nat.le_of_ble_eq_true rfl) (Nat.le_of_ble_eq_true rfl) dL_law_17 (fun o0 cJ H hK hP hD hS => ?_)
  have hK : va_K D vwCl [(cI, .int), (cJ, .long)] s := hK
  have hP : va_P D vwCl (W_L cI cJ q0 n1_0 n1_1 n1_2 n1_3 n1_4 n1_5 n1_6 n1_7 n1_8 n1_9 n1_10 n1_11 n1_12 n1_13 n1_14 q8 n2_0 n2_1 n2_2 n2_3 n2_4 n2_5 n2_6 n2_7 n2_8 n2_9 n2_10 o0 0 0 u1_0 u1_1 u1_2 u1_3 u1_4 u1_5 u1_6 u1_7 u1_8 u1_9 u1_10 u1_11 u1_12 u1_13 0 0 0 0 0 u2_0 u2_1 u2_2 u2_3 u2_4 u2_5 u2_6 u2_7 u2_8 u2_9 u2_10 (fun _ => 0)) H := hP
  have hD : va_D A (W_L cI cJ q0 n1_0 n1_1 n1_2 n1_3 n1_4 n1_5 n1_6 n1_7 n1_8 n1_9 n1_10 n1_11 n1_12 n1_13 n1_14 q8 n2_0 n2_1 n2_2 n2_3 n2_4 n2_5 n2_6 n2_7 n2_8 n2_9 n2_10 o0 0 0 u1_0 u1_1 u1_2 u1_3 u1_4 u1_5 u1_6 u1_7 u1_8 u1_9 u1_10 u1_11 u1_12 u1_13 0 0 0 0 0 u2_0 u2_1 u2_2 u2_3 u2_4 u2_5 u2_6 u2_7 u2_8 u2_9 u2_10 (fun _ => 0)) := hD
  refine lv_astore_n (lv' := [(3, .ref o0), (2, .ref q8), (1, .ref q0), (0, .ref b0)]) hx hb dL_law_19 rfl hl (by decide) rfl (fun ls hl => ?_)
  refine lv_iconst (v := 0) hx hb dL_law_20 (by decide) ?_
  refine lv_istore (lv' := [(4, .int 0), (3, .ref o0), (2, .ref q8), (1, .ref q0), (0, .ref b0)]) hx hb dL_law_21 hl (by decide) rfl (fun ls hl => ?_)
  have loop3 : ∀ (n : Nat) (v23_4 : Int32) (xr_23 : Int32) (xt_23 : Int32) (gn_23 : AA) (gu_23 : AA) (gb_23 : AA) (ga_23 : AA) (lc_23 : Int32) (lk_23 : AA) (ln_23 : AA) (lt_23 : AA) (ll_23 : AA) (lr_23 : AA) (tw_23 : Int32) (tn_23 : AA) (ts_23 : AA) (tt_23 : AA) (mr_23 : Int32) (mc_23 : Int32) (me_23 : Int32) (mw_23 : Int32) (mh_23 : Int32) (mn_23 : AA) (mu_23 : AA) (ms_23 : AA) (mt_23 : AA) (md_23 : AA) (mz_23 : AA) (mi_23 : AA) (mk_23 : AA) (mo_23 : AA) (mj_23 : AA) (ml_23 : AA) (oo_23 : LA), ∀ (kc ks : Nat), kc + n * 2 + 64 ≤ 601024 → ks + n * 9 + 64 ≤ 7293034 → p_L_law_L23 xs L n v23_4 xr_23 xt_23 gn_23 gu_23 gb_23 ga_23 lc_23 lk_23 ln_23 lt_23 ll_23 lr_23 tw_23 tn_23 ts_23 tt_23 mr_23 mc_23 me_23 mw_23 mh_23 mn_23 mu_23 ms_23 mt_23 md_23 mz_23 mi_23 mk_23 mo_23 mj_23 ml_23 oo_23 → (1 : Int32) = f_L_law_L23 xs L n v23_4 xr_23 xt_23 gn_23 gu_23 gb_23 ga_23 lc_23 lk_23 ln_23 lt_23 ll_23 lr_23 tw_23 tn_23 ts_23 tt_23 mr_23 mc_23 me_23 mw_23 mh_23 mn_23 mu_23 ms_23 mt_23 md_23 mz_23 mi_23 mk_23 mo_23 mj_23 ml_23 oo_23 → ∀ (H : Heap) (locs : List Loc), va_P D vwCl (W_L cI cJ q0 n1_0 n1_1 n1_2 n1_3 n1_4 n1_5 n1_6 n1_7 n1_8 n1_9 n1_10 n1_11 n1_12 n1_13 n1_14 q8 n2_0 n2_1 n2_2 n2_3 n2_4 n2_5 n2_6 n2_7 n2_8 n2_9 n2_10 o0 xr_23 xt_23 gn_23 gu_23 gb_23 ga_23 lc_23 lk_23 ln_23 lt_23 ll_23 lr_23 tw_23 tn_23 ts_23 tt_23 mr_23 mc_23 me_23 mw_23 mh_23 mn_23 mu_23 ms_23 mt_23 md_23 mz_23 mi_23 mk_23 mo_23 mj_23 ml_23 oo_23) H → va_D A (W_L cI cJ q0 n1_0 n1_1 n1_2 n1_3 n1_4 n1_5 n1_6 n1_7 n1_8 n1_9 n1_10 n1_11 n1_12 n1_13 n1_14 q8 n2_0 n2_1 n2_2 n2_3 n2_4 n2_5 n2_6 n2_7 n2_8 n2_9 n2_10 o0 xr_23 xt_23 gn_23 gu_23 gb_23 ga_23 lc_23 lk_23 ln_23 lt_23 ll_23 lr_23 tw_23 tn_23 ts_23 tt_23 mr_23 mc_23 me_23 mw_23 mh_23 mn_23 mu_23 ms_23 mt_23 md_23 mz_23 mi_23 mk_23 mo_23 mj_23 ml_23 oo_23) → va_S A s.heap H locs → ∀ ls : Array Slot, lv_has ls 7 [(4, .int v23_4), (3, .ref o0), (2, .ref q8), (1, .ref q0), (0, .ref b0)] → W p l e room_1 s m #[Value.ref b0] below meth c H locs kc ks (lw_Z below #[Value.ref b0] s) (F0 m 23 ls []) := by
    intro n
    induction n with
    | zero => exact fun _ _ _ _ _ _ _ _ _ _ _ _ _ _ _ _ _ _ _ _ _ _ _ _ _ _ _ _ _ _ _ _ _ _ _ _ _ _ hp => hp.elim
    | succ n ih =>
      intro v23_4 xr_23 xt_23 gn_23 gu_23 gb_23 ga_23 lc_23 lk_23 ln_23 lt_23 ll_23 lr_23 tw_23 tn_23 ts_23 tt_23 mr_23 mc_23 me_23 mw_23 mh_23 mn_23 mu_23 ms_23 mt_23 md_23 mz_23 mi_23 mk_23 mo_23 mj_23 ml_23 oo_23 kc ks hkc hks hp he H locs hP hD hS ls hl
      replace hp := Eq.mp (p_L_law_L23.eq_2 ..) hp
      replace he := he.trans (f_L_law_L23.eq_2 ..)
      refine lv_iload hx hb dL_law_23 (lv_at hl 0 rfl) ?_
      refine lv_aload_n hx hb dL_law_25 rfl (lv_at hl 4 rfl) ?_
      refine va_slen hx hb hX hbl hbA hS dL_law_26 ?_
      refine lv_iconst (v := 3) hx hb dL_law_27 (by decide) ?_
      refine lv_isub hx hb dL_law_28 ?_
      refine lv_icmp_gt (tgt := 1585) hx hb dL_law_29 (by decide) (fun c4 => ?_) (fun c4 => ?_)
      · replace hp := hp.1 c4
        replace he := he.trans (if_pos c4)
        refine lv_iconst (v := 1) hx hb dL_law_1585 (by decide) ?_
        refine va_forget (fun q hq => hAle _ (hS.2.2 q hq)) ?_
        refine W.widen (k := 601024) (n := 7293034) (by omega) (by omega) ?_
        exact lw_ret hx hb hr hlocks dL_law_1586
      · replace hp := hp.2 c4
        replace he := he.trans (if_neg c4)
        refine lv_aload_n hx hb dL_law_32 rfl (lv_at hl 4 rfl) ?_
        refine lv_iload hx hb dL_law_33 (lv_at hl 0 rfl) ?_
        have h5 := hp.1
        replace hp := hp.2
        refine va_sld hx hb hX hbl hbA hS h5 dL_law_35 ?_
        refine lv_bipush (v := 31) hx hb dL_law_36 (by decide) ?_
        refine lv_iand hx hb dL_law_38 ?_
        rcases Decidable.em (((xs (v23_4).toNatClampNeg) &&& 31) = 0) with s0 | s0
        · replace he := he.trans (if_pos s0)
          replace hp := hp.1 s0
          refine lv_tableIn (off := 129) (tgt := 168) hx hb dL_law_39 (by rw [s0]; decide) (by rw [s0]; decide) (by rw [s0]; rfl) (by decide) ?_
          refine lv_aload_n hx hb dL_law_168 rfl (lv_at hl 3 rfl) ?_
          refine lv_aload_n hx hb dL_law_169 rfl (lv_at hl 4 rfl) ?_
          refine lv_iload hx hb dL_law_170 (lv_at hl 0 rfl) ?_
          refine lv_iconst (v := 1) hx hb dL_law_172 (by decide) ?_
          refine lv_iadd hx hb dL_law_173 ?_
          have h6 := hp.1
          replace hp := hp.2
          refine va_sld hx hb hX hbl hbA hS h6 dL_law_174 ?_
          refine lv_aload_n hx hb dL_law_175 rfl (lv_at hl 4 rfl) ?_
          refine lv_iload hx hb dL_law_176 (lv_at hl 0 rfl) ?_
          refine lv_iconst (v := 2) hx hb dL_law_178 (by decide) ?_
          refine lv_iadd hx hb dL_law_179 ?_
          have h7 := hp.1
          replace hp := hp.2
          refine va_sld hx hb hX hbl hbA hS h7 dL_law_180 ?_
          refine lv_aload_n hx hb dL_law_181 rfl (lv_at hl 1 rfl) ?_
          have hq8 := hp.1
          replace hp := hp.2
          refine k_ycalli (S := AA × AA × AA × AA × LA) (wc := (W_O cI cJ q0 n1_0 n1_1 n1_2 n1_3 n1_4 n1_5 n1_6 n1_7 n1_8 n1_9 n1_10 n1_11 n1_12 n1_13 n1_14 o0 xr_23 xt_23 gn_23 gu_23 gb_23 ga_23 lc_23 lk_23 ln_23 lt_23 ll_23 lr_23 tw_23 tn_23 ts_23 tt_23 oo_23)) (wr := (W_X5 cI q8 n2_0 n2_1 n2_2 n2_3 n2_4 n2_5 n2_6 n2_7 n2_8 n2_9 n2_10 mr_23 mc_23 me_23 mw_23 mh_23 mn_23 mu_23 ms_23 mt_23 md_23 mz_23 mi_23 mk_23 mo_23 mj_23 ml_23)) (w1 := fun u => (W_O cI cJ q0 n1_0 n1_1 n1_2 n1_3 n1_4 n1_5 n1_6 n1_7 n1_8 n1_9 n1_10 n1_11 n1_12 n1_13 n1_14 o0 xr_23 xt_23 u.1 u.2.1 u.2.2.1 u.2.2.2.1 lc_23 lk_23 ln_23 lt_23 ll_23 lr_23 tw_23 tn_23 ts_23 tt_23 u.2.2.2.2)) (fun u => (W_L cI cJ q0 n1_0 n1_1 n1_2 n1_3 n1_4 n1_5 n1_6 n1_7 n1_8 n1_9 n1_10 n1_11 n1_12 n1_13 n1_14 q8 n2_0 n2_1 n2_2 n2_3 n2_4 n2_5 n2_6 n2_7 n2_8 n2_9 n2_10 o0 xr_23 xt_23 u.1 u.2.1 u.2.2.1 u.2.2.2.1 lc_23 lk_23 ln_23 lt_23 ll_23 lr_23 tw_23 tn_23 ts_23 tt_23 mr_23 mc_23 me_23 mw_23 mh_23 mn_23 mu_23 ms_23 mt_23 md_23 mz_23 mi_23 mk_23 mo_23 mj_23 ml_23 u.2.2.2.2)) hP hK hD hN hXB hS hA [0, 1, 2, 3, 4, 5, 6, 7, 8, 9, 10, 11, 12, 13, 14, 15, 28] [16, 17, 18, 19, 20, 21, 22, 23, 24, 25, 26, 27] rfl rfl (by decide) (by decide) (by decide) [12, 13, 14, 15, 16, 17, 18, 19, 20, 21, 22, 23, 24, 25, 26, 27, 0, 1, 2, 3, 4, 5, 6, 7, 8, 9, 10, 11, 28] (by decide) (fun _ => rfl) (fun hg => va_runS (As := [.ref q0, .int (xs ((v23_4 + 1)).toNatClampNeg), .int (xs ((v23_4 + 2)).toNatClampNeg), .ref o0]) (rest := []) ⟨hx, hb, hml, hown, hts⟩ (c_L_need l D cI cJ q0 n1_0 n1_1 n1_2 n1_3 n1_4 n1_5 n1_6 n1_7 n1_8 n1_9 n1_10 n1_11 n1_12 n1_13 n1_14 o0 xr_23 xt_23 gn_23 gu_23 gb_23 ga_23 lc_23 lk_23 ln_23 lt_23 ll_23 lr_23 tw_23 tn_23 ts_23 tt_23 oo_23 _ (xs ((v23_4 + 1)).toNatClampNeg) (xs ((v23_4 + 2)).toNatClampNeg) hq8 hst) (va_cwS 4 hts gL_law_L_need rfl rfl rfl (by decide +kernel) ⟨Nat.le_of_ble_eq_true rfl, Nat.le_of_ble_eq_true rfl⟩) ⟨PX.blind, fun U hU hW => ⟨rfl, hg U hU hW⟩⟩ rfl rfl hl.1 rfl (lv_room (Nat.le_of_ble_eq_true rfl)) dL_law_182 ⟨(show kc + 3 ≤ 601024 from by omega), (show ks + 18 ≤ 7293034 from by omega)⟩) (fun r8 u H locs hw hP hD hS => ?_)
          obtain ⟨u8_0, u8_1, u8_2, u8_3, u8_4⟩ := u
          rw [hw] at he
          try dsimp only at he
          replace hp := hp r8 u8_0 u8_1 u8_2 u8_3 u8_4 hw
          have hP : va_P D vwCl (W_L cI cJ q0 n1_0 n1_1 n1_2 n1_3 n1_4 n1_5 n1_6 n1_7 n1_8 n1_9 n1_10 n1_11 n1_12 n1_13 n1_14 q8 n2_0 n2_1 n2_2 n2_3 n2_4 n2_5 n2_6 n2_7 n2_8 n2_9 n2_10 o0 xr_23 xt_23 u8_0 u8_1 u8_2 u8_3 lc_23 lk_23 ln_23 lt_23 ll_23 lr_23 tw_23 tn_23 ts_23 tt_23 mr_23 mc_23 me_23 mw_23 mh_23 mn_23 mu_23 ms_23 mt_23 md_23 mz_23 mi_23 mk_23 mo_23 mj_23 ml_23 u8_4) H := hP
          have hD : va_D A (W_L cI cJ q0 n1_0 n1_1 n1_2 n1_3 n1_4 n1_5 n1_6 n1_7 n1_8 n1_9 n1_10 n1_11 n1_12 n1_13 n1_14 q8 n2_0 n2_1 n2_2 n2_3 n2_4 n2_5 n2_6 n2_7 n2_8 n2_9 n2_10 o0 xr_23 xt_23 u8_0 u8_1 u8_2 u8_3 lc_23 lk_23 ln_23 lt_23 ll_23 lr_23 tw_23 tn_23 ts_23 tt_23 mr_23 mc_23 me_23 mw_23 mh_23 mn_23 mu_23 ms_23 mt_23 md_23 mz_23 mi_23 mk_23 mo_23 mj_23 ml_23 u8_4) := hD
          refine lv_istore (lv' := [(5, .int r8), (4, .int v23_4), (3, .ref o0), (2, .ref q8), (1, .ref q0), (0, .ref b0)]) hx hb dL_law_185 hl (by decide) rfl (fun ls hl => ?_)
          refine lv_aload_n hx hb dL_law_187 rfl (lv_at hl 3 rfl) ?_
          refine lv_aload_n hx hb dL_law_188 rfl (lv_at hl 5 rfl) ?_
          refine lv_iload hx hb dL_law_189 (lv_at hl 1 rfl) ?_
          refine lv_iconst (v := 1) hx hb dL_law_191 (by decide) ?_
          refine lv_iadd hx hb dL_law_192 ?_
          have h9 := hp.1
          replace hp := hp.2
          refine va_sld hx hb hX hbl hbA hS h9 dL_law_193 ?_
          refine lv_aload_n hx hb dL_law_194 rfl (lv_at hl 5 rfl) ?_
          refine lv_iload hx hb dL_law_195 (lv_at hl 1 rfl) ?_
          refine lv_iconst (v := 2) hx hb dL_law_197 (by decide) ?_
          refine lv_iadd hx hb dL_law_198 ?_
          have h10 := hp.1
          replace hp := hp.2
          refine va_sld hx hb hX hbl hbA hS h10 dL_law_199 ?_
          have hq11 := hp.1
          replace hp := hp.2
          refine k_calli (S := Int32 × AA × AA) (wc := (W_X5 cI q8 n2_0 n2_1 n2_2 n2_3 n2_4 n2_5 n2_6 n2_7 n2_8 n2_9 n2_10 mr_23 mc_23 me_23 mw_23 mh_23 mn_23 mu_23 ms_23 mt_23 md_23 mz_23 mi_23 mk_23 mo_23 mj_23 ml_23)) (wr := (W_O cI cJ q0 n1_0 n1_1 n1_2 n1_3 n1_4 n1_5 n1_6 n1_7 n1_8 n1_9 n1_10 n1_11 n1_12 n1_13 n1_14 o0 xr_23 xt_23 u8_0 u8_1 u8_2 u8_3 lc_23 lk_23 ln_23 lt_23 ll_23 lr_23 tw_23 tn_23 ts_23 tt_23 u8_4)) (w1 := fun u => (W_X5 cI q8 n2_0 n2_1 n2_2 n2_3 n2_4 n2_5 n2_6 n2_7 n2_8 n2_9 n2_10 mr_23 mc_23 me_23 mw_23 u.1 u.2.1 u.2.2 ms_23 mt_23 md_23 mz_23 mi_23 mk_23 mo_23 mj_23 ml_23)) (fun u => (W_L cI cJ q0 n1_0 n1_1 n1_2 n1_3 n1_4 n1_5 n1_6 n1_7 n1_8 n1_9 n1_10 n1_11 n1_12 n1_13 n1_14 q8 n2_0 n2_1 n2_2 n2_3 n2_4 n2_5 n2_6 n2_7 n2_8 n2_9 n2_10 o0 xr_23 xt_23 u8_0 u8_1 u8_2 u8_3 lc_23 lk_23 ln_23 lt_23 ll_23 lr_23 tw_23 tn_23 ts_23 tt_23 mr_23 mc_23 me_23 mw_23 u.1 u.2.1 u.2.2 ms_23 mt_23 md_23 mz_23 mi_23 mk_23 mo_23 mj_23 ml_23 u8_4)) hP hK hD hN hS hA [16, 17, 18, 19, 20, 21, 22, 23, 24, 25, 26, 27] [0, 1, 2, 3, 4, 5, 6, 7, 8, 9, 10, 11, 12, 13, 14, 15, 28] rfl rfl (by decide) (by decide) (by decide) [0, 1, 2, 3, 4, 5, 6, 7, 8, 9, 10, 11, 12, 13, 14, 15, 17, 18, 19, 20, 21, 22, 23, 24, 25, 26, 27, 28, 16] (by decide) (fun _ => rfl) (fun hg => va_runV (As := [.int (xs ((v23_4 + 1)).toNatClampNeg), .int (xs ((v23_4 + 2)).toNatClampNeg)]) (rest := []) ⟨hx, hb, hml, hown, hts⟩ (c_X5_need l D cI q8 n2_0 n2_1 n2_2 n2_3 n2_4 n2_5 n2_6 n2_7 n2_8 n2_9 n2_10 mr_23 mc_23 me_23 mw_23 mh_23 mn_23 mu_23 ms_23 mt_23 md_23 mz_23 mi_23 mk_23 mo_23 mj_23 ml_23 _ (xs ((v23_4 + 1)).toNatClampNeg) (xs ((v23_4 + 2)).toNatClampNeg) hq11) (cwV 2 hts gL_law_X5_need rfl rfl rfl (by decide +kernel) ⟨Nat.le_of_ble_eq_true rfl, Nat.le_of_ble_eq_true rfl⟩) ⟨PW.blind, va_recv hK hP (ci := 5) (q0 := 16) rfl rfl, fun U hU hW => ⟨rfl, hg U hU hW⟩⟩ rfl rfl hl.1 rfl (lv_room (Nat.le_of_ble_eq_true rfl)) dL_law_200 ⟨(show (kc + 3) + 0 ≤ 601024 from by omega), (show (ks + 18) + 0 ≤ 7293034 from by omega)⟩) (fun r11 u H locs hw hP hD hS => ?_)
          obtain ⟨u11_0, u11_1, u11_2⟩ := u
          obtain ⟨hw, hb11⟩ := hw
          rw [hw] at he
          try dsimp only at he
          replace hp := hp r11 u11_0 u11_1 u11_2 hw
          have hP : va_P D vwCl (W_L cI cJ q0 n1_0 n1_1 n1_2 n1_3 n1_4 n1_5 n1_6 n1_7 n1_8 n1_9 n1_10 n1_11 n1_12 n1_13 n1_14 q8 n2_0 n2_1 n2_2 n2_3 n2_4 n2_5 n2_6 n2_7 n2_8 n2_9 n2_10 o0 xr_23 xt_23 u8_0 u8_1 u8_2 u8_3 lc_23 lk_23 ln_23 lt_23 ll_23 lr_23 tw_23 tn_23 ts_23 tt_23 mr_23 mc_23 me_23 mw_23 u11_0 u11_1 u11_2 ms_23 mt_23 md_23 mz_23 mi_23 mk_23 mo_23 mj_23 ml_23 u8_4) H := hP
          have hD : va_D A (W_L cI cJ q0 n1_0 n1_1 n1_2 n1_3 n1_4 n1_5 n1_6 n1_7 n1_8 n1_9 n1_10 n1_11 n1_12 n1_13 n1_14 q8 n2_0 n2_1 n2_2 n2_3 n2_4 n2_5 n2_6 n2_7 n2_8 n2_9 n2_10 o0 xr_23 xt_23 u8_0 u8_1 u8_2 u8_3 lc_23 lk_23 ln_23 lt_23 ll_23 lr_23 tw_23 tn_23 ts_23 tt_23 mr_23 mc_23 me_23 mw_23 u11_0 u11_1 u11_2 ms_23 mt_23 md_23 mz_23 mi_23 mk_23 mo_23 mj_23 ml_23 u8_4) := hD
          refine lv_istore (lv' := [(6, .int r11), (5, .int r8), (4, .int v23_4), (3, .ref o0), (2, .ref q8), (1, .ref q0), (0, .ref b0)]) hx hb dL_law_203 hl (by decide) rfl (fun ls hl => ?_)
          refine lv_aload_n hx hb dL_law_205 rfl (lv_at hl 4 rfl) ?_
          refine k_calli (S := Unit) (wc := (W_X5 cI q8 n2_0 n2_1 n2_2 n2_3 n2_4 n2_5 n2_6 n2_7 n2_8 n2_9 n2_10 mr_23 mc_23 me_23 mw_23 u11_0 u11_1 u11_2 ms_23 mt_23 md_23 mz_23 mi_23 mk_23 mo_23 mj_23 ml_23)) (wr := (W_O cI cJ q0 n1_0 n1_1 n1_2 n1_3 n1_4 n1_5 n1_6 n1_7 n1_8 n1_9 n1_10 n1_11 n1_12 n1_13 n1_14 o0 xr_23 xt_23 u8_0 u8_1 u8_2 u8_3 lc_23 lk_23 ln_23 lt_23 ll_23 lr_23 tw_23 tn_23 ts_23 tt_23 u8_4)) (w1 := fun u => (W_X5 cI q8 n2_0 n2_1 n2_2 n2_3 n2_4 n2_5 n2_6 n2_7 n2_8 n2_9 n2_10 mr_23 mc_23 me_23 mw_23 u11_0 u11_1 u11_2 ms_23 mt_23 md_23 mz_23 mi_23 mk_23 mo_23 mj_23 ml_23)) (fun u => (W_L cI cJ q0 n1_0 n1_1 n1_2 n1_3 n1_4 n1_5 n1_6 n1_7 n1_8 n1_9 n1_10 n1_11 n1_12 n1_13 n1_14 q8 n2_0 n2_1 n2_2 n2_3 n2_4 n2_5 n2_6 n2_7 n2_8 n2_9 n2_10 o0 xr_23 xt_23 u8_0 u8_1 u8_2 u8_3 lc_23 lk_23 ln_23 lt_23 ll_23 lr_23 tw_23 tn_23 ts_23 tt_23 mr_23 mc_23 me_23 mw_23 u11_0 u11_1 u11_2 ms_23 mt_23 md_23 mz_23 mi_23 mk_23 mo_23 mj_23 ml_23 u8_4)) hP hK hD hN hS hA [16, 17, 18, 19, 20, 21, 22, 23, 24, 25, 26, 27] [0, 1, 2, 3, 4, 5, 6, 7, 8, 9, 10, 11, 12, 13, 14, 15, 28] rfl rfl (by decide) (by decide) (by decide) [0, 1, 2, 3, 4, 5, 6, 7, 8, 9, 10, 11, 12, 13, 14, 15, 17, 18, 19, 20, 21, 22, 23, 24, 25, 26, 27, 28, 16] (by decide) (fun _ => rfl) (fun hg => va_runV (As := []) (rest := []) ⟨hx, hb, hml, hown, hts⟩ (c_X5_thrown l D cI q8 n2_0 n2_1 n2_2 n2_3 n2_4 n2_5 n2_6 n2_7 n2_8 n2_9 n2_10 mr_23 mc_23 me_23 mw_23 u11_0 u11_1 u11_2 ms_23 mt_23 md_23 mz_23 mi_23 mk_23 mo_23 mj_23 ml_23 _ ) (cwV 0 hts gL_law_X5_thrown rfl rfl rfl (by decide +kernel) ⟨Nat.le_of_ble_eq_true rfl, Nat.le_of_ble_eq_true rfl⟩) ⟨PW.blind, va_recv hK hP (ci := 5) (q0 := 16) rfl rfl, fun U hU hW => ⟨rfl, hg U hU hW⟩⟩ rfl rfl hl.1 rfl (lv_room (Nat.le_of_ble_eq_true rfl)) dL_law_206 ⟨(show (kc + 3) + 0 ≤ 601024 from by omega), (show (ks + 18) + 0 ≤ 7293034 from by omega)⟩) (fun r12 u H locs hw hP hD hS => ?_)
          subst hw
          refine lv_iload hx hb dL_law_209 (lv_at hl 1 rfl) ?_
          refine lv_icmp_eq (tgt := 216) hx hb dL_law_211 (by decide) (fun c13 => ?_) (fun c13 => ?_)
          · replace hp := hp.1 c13
            replace he := he.trans (if_pos c13)
            refine lv_iload hx hb dL_law_216 (lv_at hl 1 rfl) ?_
            refine lv_if_ne (tgt := 240) hx hb dL_law_218 (by decide) (fun c14 => ?_) (fun c14 => ?_)
            · replace hp := hp.2 c14
              replace he := he.trans (if_neg c14)
              refine lv_goto (tgt := 1579) hx hb dL_law_240 (by decide) ?_
              refine lv_iinc (v := (v23_4 + 3)) (lv' := [(4, .int (v23_4 + 3)), (6, .int r11), (5, .int r8), (3, .ref o0), (2, .ref q8), (1, .ref q0), (0, .ref b0)]) hx hb dL_law_1579 hl (k := 2) rfl rfl (by decide) rfl (fun ls hl => ?_)
              refine lv_goto (tgt := 23) hx hb dL_law_1582 (by decide) ?_
              refine W.widen (k := kc + 2) (n := ks + 9) (by omega) (by omega) ?_
              exact ih _ _ _ _ _ _ _ _ _ _ _ _ _ _ _ _ _ _ _ _ _ _ _ _ _ _ _ _ _ _ _ _ _ _ (kc + 2) (ks + 9) (by omega) (by omega) hp he _ _ hP hD hS _ (lv_sub hl [0, 3, 4, 5, 6] rfl)
            · replace hp := hp.1 c14
              replace he := he.trans (if_pos c14)
              refine lv_aload_n hx hb dL_law_221 rfl (lv_at hl 3 rfl) ?_
              refine lv_iconst (v := 0) hx hb dL_law_222 (by decide) ?_
              refine va_lald hx hb hK hP 28 1 rfl rfl (by decide) dL_law_223 ?_
              refine lv_iload hx hb dL_law_224 (lv_at hl 0 rfl) ?_
              obtain ⟨j16, hJ16⟩ : ∃ z : Int64, z = (if r11 = 0 then (0 : Int64) else (1 : Int64)) := ⟨_, rfl⟩
              rw [← hJ16] at he
              try dsimp only at he
              have hpJ16 := hp.1
              replace hp := hp.2 _  hJ16.symm
              have kont16 : ∀ (H : Heap) (locs : List Loc), va_P D vwCl (W_L cI cJ q0 n1_0 n1_1 n1_2 n1_3 n1_4 n1_5 n1_6 n1_7 n1_8 n1_9 n1_10 n1_11 n1_12 n1_13 n1_14 q8 n2_0 n2_1 n2_2 n2_3 n2_4 n2_5 n2_6 n2_7 n2_8 n2_9 n2_10 o0 xr_23 xt_23 u8_0 u8_1 u8_2 u8_3 lc_23 lk_23 ln_23 lt_23 ll_23 lr_23 tw_23 tn_23 ts_23 tt_23 mr_23 mc_23 me_23 mw_23 u11_0 u11_1 u11_2 ms_23 mt_23 md_23 mz_23 mi_23 mk_23 mo_23 mj_23 ml_23 u8_4) H → va_D A (W_L cI cJ q0 n1_0 n1_1 n1_2 n1_3 n1_4 n1_5 n1_6 n1_7 n1_8 n1_9 n1_10 n1_11 n1_12 n1_13 n1_14 q8 n2_0 n2_1 n2_2 n2_3 n2_4 n2_5 n2_6 n2_7 n2_8 n2_9 n2_10 o0 xr_23 xt_23 u8_0 u8_1 u8_2 u8_3 lc_23 lk_23 ln_23 lt_23 ll_23 lr_23 tw_23 tn_23 ts_23 tt_23 mr_23 mc_23 me_23 mw_23 u11_0 u11_1 u11_2 ms_23 mt_23 md_23 mz_23 mi_23 mk_23 mo_23 mj_23 ml_23 u8_4) → va_S A s.heap H locs → ∀ ls : Array Slot, lv_has ls 7 [(4, .int v23_4), (3, .ref o0), (2, .ref q8), (1, .ref q0), (0, .ref b0)] → W p l e room_1 s m #[Value.ref b0] below meth c H locs (kc + 3) (ks + 18) (lw_Z below #[Value.ref b0] s) (F0 m 234 ls [.long j16, .long (u8_4 (0 : Int32).toNatClampNeg)]) := by
                intro H locs hP hD hS ls hl
                refine W.lcmp hx hb dL_law_234 ?_
                refine lv_if_eq (tgt := 240) hx hb dL_law_235 (by decide) (fun c18 => ?_) (fun c18 => ?_)
                · replace hp := hp.1 c18
                  replace he := he.trans (if_pos c18)
                  refine lv_goto (tgt := 1579) hx hb dL_law_240 (by decide) ?_
                  refine lv_iinc (v := (v23_4 + 3)) (lv' := [(4, .int (v23_4 + 3)), (3, .ref o0), (2, .ref q8), (1, .ref q0), (0, .ref b0)]) hx hb dL_law_1579 hl (k := 0) rfl rfl (by decide) rfl (fun ls hl => ?_)
                  refine lv_goto (tgt := 23) hx hb dL_law_1582 (by decide) ?_
                  refine W.widen (k := kc + 2) (n := ks + 9) (by omega) (by omega) ?_
                  exact ih _ _ _ _ _ _ _ _ _ _ _ _ _ _ _ _ _ _ _ _ _ _ _ _ _ _ _ _ _ _ _ _ _ _ (kc + 2) (ks + 9) (by omega) (by omega) hp he _ _ hP hD hS _ (lv_sub hl [0, 1, 2, 3, 4] rfl)
                · replace hp := hp.2 c18
                  replace he := he.trans (if_neg c18)
                  refine lv_iconst (v := 0) hx hb dL_law_238 (by decide) ?_
                  exact absurd he (by decide)
              replace he := hJ16
              replace hp := hpJ16
              refine lv_if_eq (tgt := 233) hx hb dL_law_226 (by decide) (fun c17 => ?_) (fun c17 => ?_)
              · replace hp := hp.1 c17
                replace he := he.trans (if_pos c17)
                refine lv_lconst (v := 0) hx hb dL_law_233 rfl ?_
                subst he
                exact kont16 _ _ hP hD hS _ (lv_sub hl [2, 3, 4, 5, 6] rfl)
              · replace hp := hp.2 c17
                replace he := he.trans (if_neg c17)
                refine lv_lconst (v := 1) hx hb dL_law_229 rfl ?_
                refine lv_goto (tgt := 234) hx hb dL_law_230 (by decide) ?_
                subst he
                exact kont16 _ _ hP hD hS _ (lv_sub hl [2, 3, 4, 5, 6] rfl)
          · replace hp := hp.2 c13
            replace he := he.trans (if_neg c13)
            refine lv_iconst (v := 0) hx hb dL_law_214 (by decide) ?_
            exact absurd he (by decide)
        replace he := he.trans (if_neg s0)
        replace hp := hp.2 s0
        rcases Decidable.em (((xs (v23_4).toNatClampNeg) &&& 31) = 1) with s1 | s1
        · replace he := he.trans (if_pos s1)
          replace hp := hp.1 s1
          refine lv_tableIn (off := 204) (tgt := 243) hx hb dL_law_39 (by rw [s1]; decide) (by rw [s1]; decide) (by rw [s1]; rfl) (by decide) ?_
          refine lv_aload_n hx hb dL_law_243 rfl (lv_at hl 3 rfl) ?_
          refine lv_aload_n hx hb dL_law_244 rfl (lv_at hl 4 rfl) ?_
          refine lv_iload hx hb dL_law_245 (lv_at hl 0 rfl) ?_
          refine lv_iconst (v := 1) hx hb dL_law_247 (by decide) ?_
          refine lv_iadd hx hb dL_law_248 ?_
          have h19 := hp.1
          replace hp := hp.2
          refine va_sld hx hb hX hbl hbA hS h19 dL_law_249 ?_
          refine lv_aload_n hx hb dL_law_250 rfl (lv_at hl 4 rfl) ?_
          refine lv_iload hx hb dL_law_251 (lv_at hl 0 rfl) ?_
          refine lv_iconst (v := 2) hx hb dL_law_253 (by decide) ?_
          refine lv_iadd hx hb dL_law_254 ?_
          have h20 := hp.1
          replace hp := hp.2
          refine va_sld hx hb hX hbl hbA hS h20 dL_law_255 ?_
          refine lv_aload_n hx hb dL_law_256 rfl (lv_at hl 1 rfl) ?_
          have hq21 := hp.1
          replace hp := hp.2
          refine k_ycalli (S := AA × AA × AA × AA × LA) (wc := (W_O cI cJ q0 n1_0 n1_1 n1_2 n1_3 n1_4 n1_5 n1_6 n1_7 n1_8 n1_9 n1_10 n1_11 n1_12 n1_13 n1_14 o0 xr_23 xt_23 gn_23 gu_23 gb_23 ga_23 lc_23 lk_23 ln_23 lt_23 ll_23 lr_23 tw_23 tn_23 ts_23 tt_23 oo_23)) (wr := (W_X5 cI q8 n2_0 n2_1 n2_2 n2_3 n2_4 n2_5 n2_6 n2_7 n2_8 n2_9 n2_10 mr_23 mc_23 me_23 mw_23 mh_23 mn_23 mu_23 ms_23 mt_23 md_23 mz_23 mi_23 mk_23 mo_23 mj_23 ml_23)) (w1 := fun u => (W_O cI cJ q0 n1_0 n1_1 n1_2 n1_3 n1_4 n1_5 n1_6 n1_7 n1_8 n1_9 n1_10 n1_11 n1_12 n1_13 n1_14 o0 xr_23 xt_23 u.1 u.2.1 u.2.2.1 u.2.2.2.1 lc_23 lk_23 ln_23 lt_23 ll_23 lr_23 tw_23 tn_23 ts_23 tt_23 u.2.2.2.2)) (fun u => (W_L cI cJ q0 n1_0 n1_1 n1_2 n1_3 n1_4 n1_5 n1_6 n1_7 n1_8 n1_9 n1_10 n1_11 n1_12 n1_13 n1_14 q8 n2_0 n2_1 n2_2 n2_3 n2_4 n2_5 n2_6 n2_7 n2_8 n2_9 n2_10 o0 xr_23 xt_23 u.1 u.2.1 u.2.2.1 u.2.2.2.1 lc_23 lk_23 ln_23 lt_23 ll_23 lr_23 tw_23 tn_23 ts_23 tt_23 mr_23 mc_23 me_23 mw_23 mh_23 mn_23 mu_23 ms_23 mt_23 md_23 mz_23 mi_23 mk_23 mo_23 mj_23 ml_23 u.2.2.2.2)) hP hK hD hN hXB hS hA [0, 1, 2, 3, 4, 5, 6, 7, 8, 9, 10, 11, 12, 13, 14, 15, 28] [16, 17, 18, 19, 20, 21, 22, 23, 24, 25, 26, 27] rfl rfl (by decide) (by decide) (by decide) [12, 13, 14, 15, 16, 17, 18, 19, 20, 21, 22, 23, 24, 25, 26, 27, 0, 1, 2, 3, 4, 5, 6, 7, 8, 9, 10, 11, 28] (by decide) (fun _ => rfl) (fun hg => va_runS (As := [.ref q0, .int (xs ((v23_4 + 1)).toNatClampNeg), .int (xs ((v23_4 + 2)).toNatClampNeg), .ref o0]) (rest := []) ⟨hx, hb, hml, hown, hts⟩ (c_L_release l D cI cJ q0 n1_0 n1_1 n1_2 n1_3 n1_4 n1_5 n1_6 n1_7 n1_8 n1_9 n1_10 n1_11 n1_12 n1_13 n1_14 o0 xr_23 xt_23 gn_23 gu_23 gb_23 ga_23 lc_23 lk_23 ln_23 lt_23 ll_23 lr_23 tw_23 tn_23 ts_23 tt_23 oo_23 _ (xs ((v23_4 + 1)).toNatClampNeg) (xs ((v23_4 + 2)).toNatClampNeg) hq21 hst) (va_cwS 4 hts gL_law_L_release rfl rfl rfl (by decide +kernel) ⟨Nat.le_of_ble_eq_true rfl, Nat.le_of_ble_eq_true rfl⟩) ⟨PX.blind, fun U hU hW => ⟨rfl, hg U hU hW⟩⟩ rfl rfl hl.1 rfl (lv_room (Nat.le_of_ble_eq_true rfl)) dL_law_257 ⟨(show kc + 2 ≤ 601024 from by omega), (show ks + 12 ≤ 7293034 from by omega)⟩) (fun r21 u H locs hw hP hD hS => ?_)
          obtain ⟨u21_0, u21_1, u21_2, u21_3, u21_4⟩ := u
          rw [hw] at he
          try dsimp only at he
          replace hp := hp r21 u21_0 u21_1 u21_2 u21_3 u21_4 hw
          have hP : va_P D vwCl (W_L cI cJ q0 n1_0 n1_1 n1_2 n1_3 n1_4 n1_5 n1_6 n1_7 n1_8 n1_9 n1_10 n1_11 n1_12 n1_13 n1_14 q8 n2_0 n2_1 n2_2 n2_3 n2_4 n2_5 n2_6 n2_7 n2_8 n2_9 n2_10 o0 xr_23 xt_23 u21_0 u21_1 u21_2 u21_3 lc_23 lk_23 ln_23 lt_23 ll_23 lr_23 tw_23 tn_23 ts_23 tt_23 mr_23 mc_23 me_23 mw_23 mh_23 mn_23 mu_23 ms_23 mt_23 md_23 mz_23 mi_23 mk_23 mo_23 mj_23 ml_23 u21_4) H := hP
          have hD : va_D A (W_L cI cJ q0 n1_0 n1_1 n1_2 n1_3 n1_4 n1_5 n1_6 n1_7 n1_8 n1_9 n1_10 n1_11 n1_12 n1_13 n1_14 q8 n2_0 n2_1 n2_2 n2_3 n2_4 n2_5 n2_6 n2_7 n2_8 n2_9 n2_10 o0 xr_23 xt_23 u21_0 u21_1 u21_2 u21_3 lc_23 lk_23 ln_23 lt_23 ll_23 lr_23 tw_23 tn_23 ts_23 tt_23 mr_23 mc_23 me_23 mw_23 mh_23 mn_23 mu_23 ms_23 mt_23 md_23 mz_23 mi_23 mk_23 mo_23 mj_23 ml_23 u21_4) := hD
          refine lv_istore (lv' := [(5, .int r21), (4, .int v23_4), (3, .ref o0), (2, .ref q8), (1, .ref q0), (0, .ref b0)]) hx hb dL_law_260 hl (by decide) rfl (fun ls hl => ?_)
          refine lv_aload_n hx hb dL_law_262 rfl (lv_at hl 3 rfl) ?_
          refine lv_aload_n hx hb dL_law_263 rfl (lv_at hl 5 rfl) ?_
          refine lv_iload hx hb dL_law_264 (lv_at hl 1 rfl) ?_
          refine lv_iconst (v := 1) hx hb dL_law_266 (by decide) ?_
          refine lv_iadd hx hb dL_law_267 ?_
          have h22 := hp.1
          replace hp := hp.2
          refine va_sld hx hb hX hbl hbA hS h22 dL_law_268 ?_
          refine lv_aload_n hx hb dL_law_269 rfl (lv_at hl 5 rfl) ?_
          refine lv_iload hx hb dL_law_270 (lv_at hl 1 rfl) ?_
          refine lv_iconst (v := 2) hx hb dL_law_272 (by decide) ?_
          refine lv_iadd hx hb dL_law_273 ?_
          have h23 := hp.1
          replace hp := hp.2
          refine va_sld hx hb hX hbl hbA hS h23 dL_law_274 ?_
          have hq24 := hp.1
          replace hp := hp.2
          refine k_calli (S := Int32 × AA × AA) (wc := (W_X5 cI q8 n2_0 n2_1 n2_2 n2_3 n2_4 n2_5 n2_6 n2_7 n2_8 n2_9 n2_10 mr_23 mc_23 me_23 mw_23 mh_23 mn_23 mu_23 ms_23 mt_23 md_23 mz_23 mi_23 mk_23 mo_23 mj_23 ml_23)) (wr := (W_O cI cJ q0 n1_0 n1_1 n1_2 n1_3 n1_4 n1_5 n1_6 n1_7 n1_8 n1_9 n1_10 n1_11 n1_12 n1_13 n1_14 o0 xr_23 xt_23 u21_0 u21_1 u21_2 u21_3 lc_23 lk_23 ln_23 lt_23 ll_23 lr_23 tw_23 tn_23 ts_23 tt_23 u21_4)) (w1 := fun u => (W_X5 cI q8 n2_0 n2_1 n2_2 n2_3 n2_4 n2_5 n2_6 n2_7 n2_8 n2_9 n2_10 mr_23 mc_23 me_23 mw_23 u.1 u.2.1 u.2.2 ms_23 mt_23 md_23 mz_23 mi_23 mk_23 mo_23 mj_23 ml_23)) (fun u => (W_L cI cJ q0 n1_0 n1_1 n1_2 n1_3 n1_4 n1_5 n1_6 n1_7 n1_8 n1_9 n1_10 n1_11 n1_12 n1_13 n1_14 q8 n2_0 n2_1 n2_2 n2_3 n2_4 n2_5 n2_6 n2_7 n2_8 n2_9 n2_10 o0 xr_23 xt_23 u21_0 u21_1 u21_2 u21_3 lc_23 lk_23 ln_23 lt_23 ll_23 lr_23 tw_23 tn_23 ts_23 tt_23 mr_23 mc_23 me_23 mw_23 u.1 u.2.1 u.2.2 ms_23 mt_23 md_23 mz_23 mi_23 mk_23 mo_23 mj_23 ml_23 u21_4)) hP hK hD hN hS hA [16, 17, 18, 19, 20, 21, 22, 23, 24, 25, 26, 27] [0, 1, 2, 3, 4, 5, 6, 7, 8, 9, 10, 11, 12, 13, 14, 15, 28] rfl rfl (by decide) (by decide) (by decide) [0, 1, 2, 3, 4, 5, 6, 7, 8, 9, 10, 11, 12, 13, 14, 15, 17, 18, 19, 20, 21, 22, 23, 24, 25, 26, 27, 28, 16] (by decide) (fun _ => rfl) (fun hg => va_runV (As := [.int (xs ((v23_4 + 1)).toNatClampNeg), .int (xs ((v23_4 + 2)).toNatClampNeg)]) (rest := []) ⟨hx, hb, hml, hown, hts⟩ (c_X5_release l D cI q8 n2_0 n2_1 n2_2 n2_3 n2_4 n2_5 n2_6 n2_7 n2_8 n2_9 n2_10 mr_23 mc_23 me_23 mw_23 mh_23 mn_23 mu_23 ms_23 mt_23 md_23 mz_23 mi_23 mk_23 mo_23 mj_23 ml_23 _ (xs ((v23_4 + 1)).toNatClampNeg) (xs ((v23_4 + 2)).toNatClampNeg) hq24) (cwV 2 hts gL_law_X5_release rfl rfl rfl (by decide +kernel) ⟨Nat.le_of_ble_eq_true rfl, Nat.le_of_ble_eq_true rfl⟩) ⟨PW.blind, va_recv hK hP (ci := 5) (q0 := 16) rfl rfl, fun U hU hW => ⟨rfl, hg U hU hW⟩⟩ rfl rfl hl.1 rfl (lv_room (Nat.le_of_ble_eq_true rfl)) dL_law_275 ⟨(show (kc + 2) + 0 ≤ 601024 from by omega), (show (ks + 12) + 0 ≤ 7293034 from by omega)⟩) (fun r24 u H locs hw hP hD hS => ?_)
          obtain ⟨u24_0, u24_1, u24_2⟩ := u
          obtain ⟨hw, hb24⟩ := hw
          rw [hw] at he
          try dsimp only at he
          replace hp := hp r24 u24_0 u24_1 u24_2 hw
          have hP : va_P D vwCl (W_L cI cJ q0 n1_0 n1_1 n1_2 n1_3 n1_4 n1_5 n1_6 n1_7 n1_8 n1_9 n1_10 n1_11 n1_12 n1_13 n1_14 q8 n2_0 n2_1 n2_2 n2_3 n2_4 n2_5 n2_6 n2_7 n2_8 n2_9 n2_10 o0 xr_23 xt_23 u21_0 u21_1 u21_2 u21_3 lc_23 lk_23 ln_23 lt_23 ll_23 lr_23 tw_23 tn_23 ts_23 tt_23 mr_23 mc_23 me_23 mw_23 u24_0 u24_1 u24_2 ms_23 mt_23 md_23 mz_23 mi_23 mk_23 mo_23 mj_23 ml_23 u21_4) H := hP
          have hD : va_D A (W_L cI cJ q0 n1_0 n1_1 n1_2 n1_3 n1_4 n1_5 n1_6 n1_7 n1_8 n1_9 n1_10 n1_11 n1_12 n1_13 n1_14 q8 n2_0 n2_1 n2_2 n2_3 n2_4 n2_5 n2_6 n2_7 n2_8 n2_9 n2_10 o0 xr_23 xt_23 u21_0 u21_1 u21_2 u21_3 lc_23 lk_23 ln_23 lt_23 ll_23 lr_23 tw_23 tn_23 ts_23 tt_23 mr_23 mc_23 me_23 mw_23 u24_0 u24_1 u24_2 ms_23 mt_23 md_23 mz_23 mi_23 mk_23 mo_23 mj_23 ml_23 u21_4) := hD
          refine lv_istore (lv' := [(6, .int r24), (5, .int r21), (4, .int v23_4), (3, .ref o0), (2, .ref q8), (1, .ref q0), (0, .ref b0)]) hx hb dL_law_278 hl (by decide) rfl (fun ls hl => ?_)
          refine lv_aload_n hx hb dL_law_280 rfl (lv_at hl 4 rfl) ?_
          refine k_calli (S := Unit) (wc := (W_X5 cI q8 n2_0 n2_1 n2_2 n2_3 n2_4 n2_5 n2_6 n2_7 n2_8 n2_9 n2_10 mr_23 mc_23 me_23 mw_23 u24_0 u24_1 u24_2 ms_23 mt_23 md_23 mz_23 mi_23 mk_23 mo_23 mj_23 ml_23)) (wr := (W_O cI cJ q0 n1_0 n1_1 n1_2 n1_3 n1_4 n1_5 n1_6 n1_7 n1_8 n1_9 n1_10 n1_11 n1_12 n1_13 n1_14 o0 xr_23 xt_23 u21_0 u21_1 u21_2 u21_3 lc_23 lk_23 ln_23 lt_23 ll_23 lr_23 tw_23 tn_23 ts_23 tt_23 u21_4)) (w1 := fun u => (W_X5 cI q8 n2_0 n2_1 n2_2 n2_3 n2_4 n2_5 n2_6 n2_7 n2_8 n2_9 n2_10 mr_23 mc_23 me_23 mw_23 u24_0 u24_1 u24_2 ms_23 mt_23 md_23 mz_23 mi_23 mk_23 mo_23 mj_23 ml_23)) (fun u => (W_L cI cJ q0 n1_0 n1_1 n1_2 n1_3 n1_4 n1_5 n1_6 n1_7 n1_8 n1_9 n1_10 n1_11 n1_12 n1_13 n1_14 q8 n2_0 n2_1 n2_2 n2_3 n2_4 n2_5 n2_6 n2_7 n2_8 n2_9 n2_10 o0 xr_23 xt_23 u21_0 u21_1 u21_2 u21_3 lc_23 lk_23 ln_23 lt_23 ll_23 lr_23 tw_23 tn_23 ts_23 tt_23 mr_23 mc_23 me_23 mw_23 u24_0 u24_1 u24_2 ms_23 mt_23 md_23 mz_23 mi_23 mk_23 mo_23 mj_23 ml_23 u21_4)) hP hK hD hN hS hA [16, 17, 18, 19, 20, 21, 22, 23, 24, 25, 26, 27] [0, 1, 2, 3, 4, 5, 6, 7, 8, 9, 10, 11, 12, 13, 14, 15, 28] rfl rfl (by decide) (by decide) (by decide) [0, 1, 2, 3, 4, 5, 6, 7, 8, 9, 10, 11, 12, 13, 14, 15, 17, 18, 19, 20, 21, 22, 23, 24, 25, 26, 27, 28, 16] (by decide) (fun _ => rfl) (fun hg => va_runV (As := []) (rest := []) ⟨hx, hb, hml, hown, hts⟩ (c_X5_thrown l D cI q8 n2_0 n2_1 n2_2 n2_3 n2_4 n2_5 n2_6 n2_7 n2_8 n2_9 n2_10 mr_23 mc_23 me_23 mw_23 u24_0 u24_1 u24_2 ms_23 mt_23 md_23 mz_23 mi_23 mk_23 mo_23 mj_23 ml_23 _ ) (cwV 0 hts gL_law_X5_thrown rfl rfl rfl (by decide +kernel) ⟨Nat.le_of_ble_eq_true rfl, Nat.le_of_ble_eq_true rfl⟩) ⟨PW.blind, va_recv hK hP (ci := 5) (q0 := 16) rfl rfl, fun U hU hW => ⟨rfl, hg U hU hW⟩⟩ rfl rfl hl.1 rfl (lv_room (Nat.le_of_ble_eq_true rfl)) dL_law_281 ⟨(show (kc + 2) + 0 ≤ 601024 from by omega), (show (ks + 12) + 0 ≤ 7293034 from by omega)⟩) (fun r25 u H locs hw hP hD hS => ?_)
          subst hw
          refine lv_iload hx hb dL_law_284 (lv_at hl 1 rfl) ?_
          refine lv_icmp_eq (tgt := 291) hx hb dL_law_286 (by decide) (fun c26 => ?_) (fun c26 => ?_)
          · replace hp := hp.1 c26
            replace he := he.trans (if_pos c26)
            refine lv_iload hx hb dL_law_291 (lv_at hl 1 rfl) ?_
            refine lv_if_ne (tgt := 315) hx hb dL_law_293 (by decide) (fun c27 => ?_) (fun c27 => ?_)
            · replace hp := hp.2 c27
              replace he := he.trans (if_neg c27)
              refine lv_goto (tgt := 1579) hx hb dL_law_315 (by decide) ?_
              refine lv_iinc (v := (v23_4 + 3)) (lv' := [(4, .int (v23_4 + 3)), (6, .int r24), (5, .int r21), (3, .ref o0), (2, .ref q8), (1, .ref q0), (0, .ref b0)]) hx hb dL_law_1579 hl (k := 2) rfl rfl (by decide) rfl (fun ls hl => ?_)
              refine lv_goto (tgt := 23) hx hb dL_law_1582 (by decide) ?_
              refine W.widen (k := kc + 2) (n := ks + 9) (by omega) (by omega) ?_
              exact ih _ _ _ _ _ _ _ _ _ _ _ _ _ _ _ _ _ _ _ _ _ _ _ _ _ _ _ _ _ _ _ _ _ _ (kc + 2) (ks + 9) (by omega) (by omega) hp he _ _ hP hD hS _ (lv_sub hl [0, 3, 4, 5, 6] rfl)
            · replace hp := hp.1 c27
              replace he := he.trans (if_pos c27)
              refine lv_aload_n hx hb dL_law_296 rfl (lv_at hl 3 rfl) ?_
              refine lv_iconst (v := 0) hx hb dL_law_297 (by decide) ?_
              refine va_lald hx hb hK hP 28 1 rfl rfl (by decide) dL_law_298 ?_
              refine lv_iload hx hb dL_law_299 (lv_at hl 0 rfl) ?_
              obtain ⟨j29, hJ29⟩ : ∃ z : Int64, z = (if r24 = 0 then (0 : Int64) else (1 : Int64)) := ⟨_, rfl⟩
              rw [← hJ29] at he
              try dsimp only at he
              have hpJ29 := hp.1
              replace hp := hp.2 _  hJ29.symm
              have kont29 : ∀ (H : Heap) (locs : List Loc), va_P D vwCl (W_L cI cJ q0 n1_0 n1_1 n1_2 n1_3 n1_4 n1_5 n1_6 n1_7 n1_8 n1_9 n1_10 n1_11 n1_12 n1_13 n1_14 q8 n2_0 n2_1 n2_2 n2_3 n2_4 n2_5 n2_6 n2_7 n2_8 n2_9 n2_10 o0 xr_23 xt_23 u21_0 u21_1 u21_2 u21_3 lc_23 lk_23 ln_23 lt_23 ll_23 lr_23 tw_23 tn_23 ts_23 tt_23 mr_23 mc_23 me_23 mw_23 u24_0 u24_1 u24_2 ms_23 mt_23 md_23 mz_23 mi_23 mk_23 mo_23 mj_23 ml_23 u21_4) H → va_D A (W_L cI cJ q0 n1_0 n1_1 n1_2 n1_3 n1_4 n1_5 n1_6 n1_7 n1_8 n1_9 n1_10 n1_11 n1_12 n1_13 n1_14 q8 n2_0 n2_1 n2_2 n2_3 n2_4 n2_5 n2_6 n2_7 n2_8 n2_9 n2_10 o0 xr_23 xt_23 u21_0 u21_1 u21_2 u21_3 lc_23 lk_23 ln_23 lt_23 ll_23 lr_23 tw_23 tn_23 ts_23 tt_23 mr_23 mc_23 me_23 mw_23 u24_0 u24_1 u24_2 ms_23 mt_23 md_23 mz_23 mi_23 mk_23 mo_23 mj_23 ml_23 u21_4) → va_S A s.heap H locs → ∀ ls : Array Slot, lv_has ls 7 [(4, .int v23_4), (3, .ref o0), (2, .ref q8), (1, .ref q0), (0, .ref b0)] → W p l e room_1 s m #[Value.ref b0] below meth c H locs (kc + 2) (ks + 12) (lw_Z below #[Value.ref b0] s) (F0 m 309 ls [.long j29, .long (u21_4 (0 : Int32).toNatClampNeg)]) := by
                intro H locs hP hD hS ls hl
                refine W.lcmp hx hb dL_law_309 ?_
                refine lv_if_eq (tgt := 315) hx hb dL_law_310 (by decide) (fun c31 => ?_) (fun c31 => ?_)
                · replace hp := hp.1 c31
                  replace he := he.trans (if_pos c31)
                  refine lv_goto (tgt := 1579) hx hb dL_law_315 (by decide) ?_
                  refine lv_iinc (v := (v23_4 + 3)) (lv' := [(4, .int (v23_4 + 3)), (3, .ref o0), (2, .ref q8), (1, .ref q0), (0, .ref b0)]) hx hb dL_law_1579 hl (k := 0) rfl rfl (by decide) rfl (fun ls hl => ?_)
                  refine lv_goto (tgt := 23) hx hb dL_law_1582 (by decide) ?_
                  refine W.widen (k := kc + 2) (n := ks + 9) (by omega) (by omega) ?_
                  exact ih _ _ _ _ _ _ _ _ _ _ _ _ _ _ _ _ _ _ _ _ _ _ _ _ _ _ _ _ _ _ _ _ _ _ (kc + 2) (ks + 9) (by omega) (by omega) hp he _ _ hP hD hS _ (lv_sub hl [0, 1, 2, 3, 4] rfl)
                · replace hp := hp.2 c31
                  replace he := he.trans (if_neg c31)
                  refine lv_iconst (v := 0) hx hb dL_law_313 (by decide) ?_
                  exact absurd he (by decide)
              replace he := hJ29
              replace hp := hpJ29
              refine lv_if_eq (tgt := 308) hx hb dL_law_301 (by decide) (fun c30 => ?_) (fun c30 => ?_)
              · replace hp := hp.1 c30
                replace he := he.trans (if_pos c30)
                refine lv_lconst (v := 0) hx hb dL_law_308 rfl ?_
                subst he
                exact kont29 _ _ hP hD hS _ (lv_sub hl [2, 3, 4, 5, 6] rfl)
              · replace hp := hp.2 c30
                replace he := he.trans (if_neg c30)
                refine lv_lconst (v := 1) hx hb dL_law_304 rfl ?_
                refine lv_goto (tgt := 309) hx hb dL_law_305 (by decide) ?_
                subst he
                exact kont29 _ _ hP hD hS _ (lv_sub hl [2, 3, 4, 5, 6] rfl)
          · replace hp := hp.2 c26
            replace he := he.trans (if_neg c26)
            refine lv_iconst (v := 0) hx hb dL_law_289 (by decide) ?_
            exact absurd he (by decide)
        replace he := he.trans (if_neg s1)
        replace hp := hp.2 s1
        rcases Decidable.em (((xs (v23_4).toNatClampNeg) &&& 31) = 2) with s2 | s2
        · replace he := he.trans (if_pos s2)
          replace hp := hp.1 s2
          refine lv_tableIn (off := 279) (tgt := 318) hx hb dL_law_39 (by rw [s2]; decide) (by rw [s2]; decide) (by rw [s2]; rfl) (by decide) ?_
          refine lv_aload_n hx hb dL_law_318 rfl (lv_at hl 3 rfl) ?_
          refine lv_aload_n hx hb dL_law_319 rfl (lv_at hl 4 rfl) ?_
          refine lv_iload hx hb dL_law_320 (lv_at hl 0 rfl) ?_
          refine lv_iconst (v := 1) hx hb dL_law_322 (by decide) ?_
          refine lv_iadd hx hb dL_law_323 ?_
          have h32 := hp.1
          replace hp := hp.2
          refine va_sld hx hb hX hbl hbA hS h32 dL_law_324 ?_
          refine lv_aload_n hx hb dL_law_325 rfl (lv_at hl 4 rfl) ?_
          refine lv_iload hx hb dL_law_326 (lv_at hl 0 rfl) ?_
          refine lv_iconst (v := 2) hx hb dL_law_328 (by decide) ?_
          refine lv_iadd hx hb dL_law_329 ?_
          have h33 := hp.1
          replace hp := hp.2
          refine va_sld hx hb hX hbl hbA hS h33 dL_law_330 ?_
          refine lv_aload_n hx hb dL_law_331 rfl (lv_at hl 1 rfl) ?_
          have hq34 := hp.1
          replace hp := hp.2
          refine k_ycalli (S := LA) (wc := (W_O cI cJ q0 n1_0 n1_1 n1_2 n1_3 n1_4 n1_5 n1_6 n1_7 n1_8 n1_9 n1_10 n1_11 n1_12 n1_13 n1_14 o0 xr_23 xt_23 gn_23 gu_23 gb_23 ga_23 lc_23 lk_23 ln_23 lt_23 ll_23 lr_23 tw_23 tn_23 ts_23 tt_23 oo_23)) (wr := (W_X5 cI q8 n2_0 n2_1 n2_2 n2_3 n2_4 n2_5 n2_6 n2_7 n2_8 n2_9 n2_10 mr_23 mc_23 me_23 mw_23 mh_23 mn_23 mu_23 ms_23 mt_23 md_23 mz_23 mi_23 mk_23 mo_23 mj_23 ml_23)) (w1 := fun u => (W_O cI cJ q0 n1_0 n1_1 n1_2 n1_3 n1_4 n1_5 n1_6 n1_7 n1_8 n1_9 n1_10 n1_11 n1_12 n1_13 n1_14 o0 xr_23 xt_23 gn_23 gu_23 gb_23 ga_23 lc_23 lk_23 ln_23 lt_23 ll_23 lr_23 tw_23 tn_23 ts_23 tt_23 u)) (fun u => (W_L cI cJ q0 n1_0 n1_1 n1_2 n1_3 n1_4 n1_5 n1_6 n1_7 n1_8 n1_9 n1_10 n1_11 n1_12 n1_13 n1_14 q8 n2_0 n2_1 n2_2 n2_3 n2_4 n2_5 n2_6 n2_7 n2_8 n2_9 n2_10 o0 xr_23 xt_23 gn_23 gu_23 gb_23 ga_23 lc_23 lk_23 ln_23 lt_23 ll_23 lr_23 tw_23 tn_23 ts_23 tt_23 mr_23 mc_23 me_23 mw_23 mh_23 mn_23 mu_23 ms_23 mt_23 md_23 mz_23 mi_23 mk_23 mo_23 mj_23 ml_23 u)) hP hK hD hN hXB hS hA [0, 1, 2, 3, 4, 5, 6, 7, 8, 9, 10, 11, 12, 13, 14, 15, 28] [16, 17, 18, 19, 20, 21, 22, 23, 24, 25, 26, 27] rfl rfl (by decide) (by decide) (by decide) [12, 13, 14, 15, 16, 17, 18, 19, 20, 21, 22, 23, 24, 25, 26, 27, 0, 1, 2, 3, 4, 5, 6, 7, 8, 9, 10, 11, 28] (by decide) (fun _ => rfl) (fun hg => va_runS (As := [.ref q0, .int (xs ((v23_4 + 1)).toNatClampNeg), .int (xs ((v23_4 + 2)).toNatClampNeg), .ref o0]) (rest := []) ⟨hx, hb, hml, hown, hts⟩ (c_L_needs l D cI cJ q0 n1_0 n1_1 n1_2 n1_3 n1_4 n1_5 n1_6 n1_7 n1_8 n1_9 n1_10 n1_11 n1_12 n1_13 n1_14 o0 xr_23 xt_23 gn_23 gu_23 gb_23 ga_23 lc_23 lk_23 ln_23 lt_23 ll_23 lr_23 tw_23 tn_23 ts_23 tt_23 oo_23 _ (xs ((v23_4 + 1)).toNatClampNeg) (xs ((v23_4 + 2)).toNatClampNeg) hq34 hst) (va_cwS 4 hts gL_law_L_needs rfl rfl rfl (by decide +kernel) ⟨Nat.le_of_ble_eq_true rfl, Nat.le_of_ble_eq_true rfl⟩) ⟨PX.blind, fun U hU hW => ⟨rfl, hg U hU hW⟩⟩ rfl rfl hl.1 rfl (lv_room (Nat.le_of_ble_eq_true rfl)) dL_law_332 ⟨(show kc + 2 ≤ 601024 from by omega), (show ks + 12 ≤ 7293034 from by omega)⟩) (fun r34 u H locs hw hP hD hS => ?_)
          obtain ⟨u34_0, rfl⟩ : ∃ z, z = u := ⟨_, rfl⟩
          rw [hw] at he
          try dsimp only at he
          replace hp := hp r34 u34_0 hw
          have hP : va_P D vwCl (W_L cI cJ q0 n1_0 n1_1 n1_2 n1_3 n1_4 n1_5 n1_6 n1_7 n1_8 n1_9 n1_10 n1_11 n1_12 n1_13 n1_14 q8 n2_0 n2_1 n2_2 n2_3 n2_4 n2_5 n2_6 n2_7 n2_8 n2_9 n2_10 o0 xr_23 xt_23 gn_23 gu_23 gb_23 ga_23 lc_23 lk_23 ln_23 lt_23 ll_23 lr_23 tw_23 tn_23 ts_23 tt_23 mr_23 mc_23 me_23 mw_23 mh_23 mn_23 mu_23 ms_23 mt_23 md_23 mz_23 mi_23 mk_23 mo_23 mj_23 ml_23 u34_0) H := hP
          have hD : va_D A (W_L cI cJ q0 n1_0 n1_1 n1_2 n1_3 n1_4 n1_5 n1_6 n1_7 n1_8 n1_9 n1_10 n1_11 n1_12 n1_13 n1_14 q8 n2_0 n2_1 n2_2 n2_3 n2_4 n2_5 n2_6 n2_7 n2_8 n2_9 n2_10 o0 xr_23 xt_23 gn_23 gu_23 gb_23 ga_23 lc_23 lk_23 ln_23 lt_23 ll_23 lr_23 tw_23 tn_23 ts_23 tt_23 mr_23 mc_23 me_23 mw_23 mh_23 mn_23 mu_23 ms_23 mt_23 md_23 mz_23 mi_23 mk_23 mo_23 mj_23 ml_23 u34_0) := hD
          refine lv_istore (lv' := [(5, .int r34), (4, .int v23_4), (3, .ref o0), (2, .ref q8), (1, .ref q0), (0, .ref b0)]) hx hb dL_law_335 hl (by decide) rfl (fun ls hl => ?_)
          refine lv_aload_n hx hb dL_law_337 rfl (lv_at hl 3 rfl) ?_
          refine lv_aload_n hx hb dL_law_338 rfl (lv_at hl 5 rfl) ?_
          refine lv_iload hx hb dL_law_339 (lv_at hl 1 rfl) ?_
          refine lv_iconst (v := 1) hx hb dL_law_341 (by decide) ?_
          refine lv_iadd hx hb dL_law_342 ?_
          have h35 := hp.1
          replace hp := hp.2
          refine va_sld hx hb hX hbl hbA hS h35 dL_law_343 ?_
          refine lv_aload_n hx hb dL_law_344 rfl (lv_at hl 5 rfl) ?_
          refine lv_iload hx hb dL_law_345 (lv_at hl 1 rfl) ?_
          refine lv_iconst (v := 2) hx hb dL_law_347 (by decide) ?_
          refine lv_iadd hx hb dL_law_348 ?_
          have h36 := hp.1
          replace hp := hp.2
          refine va_sld hx hb hX hbl hbA hS h36 dL_law_349 ?_
          have hq37 := hp.1
          replace hp := hp.2
          refine k_calli (S := Int32) (wc := (W_X5 cI q8 n2_0 n2_1 n2_2 n2_3 n2_4 n2_5 n2_6 n2_7 n2_8 n2_9 n2_10 mr_23 mc_23 me_23 mw_23 mh_23 mn_23 mu_23 ms_23 mt_23 md_23 mz_23 mi_23 mk_23 mo_23 mj_23 ml_23)) (wr := (W_O cI cJ q0 n1_0 n1_1 n1_2 n1_3 n1_4 n1_5 n1_6 n1_7 n1_8 n1_9 n1_10 n1_11 n1_12 n1_13 n1_14 o0 xr_23 xt_23 gn_23 gu_23 gb_23 ga_23 lc_23 lk_23 ln_23 lt_23 ll_23 lr_23 tw_23 tn_23 ts_23 tt_23 u34_0)) (w1 := fun u => (W_X5 cI q8 n2_0 n2_1 n2_2 n2_3 n2_4 n2_5 n2_6 n2_7 n2_8 n2_9 n2_10 mr_23 mc_23 me_23 mw_23 u mn_23 mu_23 ms_23 mt_23 md_23 mz_23 mi_23 mk_23 mo_23 mj_23 ml_23)) (fun u => (W_L cI cJ q0 n1_0 n1_1 n1_2 n1_3 n1_4 n1_5 n1_6 n1_7 n1_8 n1_9 n1_10 n1_11 n1_12 n1_13 n1_14 q8 n2_0 n2_1 n2_2 n2_3 n2_4 n2_5 n2_6 n2_7 n2_8 n2_9 n2_10 o0 xr_23 xt_23 gn_23 gu_23 gb_23 ga_23 lc_23 lk_23 ln_23 lt_23 ll_23 lr_23 tw_23 tn_23 ts_23 tt_23 mr_23 mc_23 me_23 mw_23 u mn_23 mu_23 ms_23 mt_23 md_23 mz_23 mi_23 mk_23 mo_23 mj_23 ml_23 u34_0)) hP hK hD hN hS hA [16, 17, 18, 19, 20, 21, 22, 23, 24, 25, 26, 27] [0, 1, 2, 3, 4, 5, 6, 7, 8, 9, 10, 11, 12, 13, 14, 15, 28] rfl rfl (by decide) (by decide) (by decide) [0, 1, 2, 3, 4, 5, 6, 7, 8, 9, 10, 11, 12, 13, 14, 15, 17, 18, 19, 20, 21, 22, 23, 24, 25, 26, 27, 28, 16] (by decide) (fun _ => rfl) (fun hg => va_runV (As := [.int (xs ((v23_4 + 1)).toNatClampNeg), .int (xs ((v23_4 + 2)).toNatClampNeg)]) (rest := []) ⟨hx, hb, hml, hown, hts⟩ (c_X5_needs l D cI q8 n2_0 n2_1 n2_2 n2_3 n2_4 n2_5 n2_6 n2_7 n2_8 n2_9 n2_10 mr_23 mc_23 me_23 mw_23 mh_23 mn_23 mu_23 ms_23 mt_23 md_23 mz_23 mi_23 mk_23 mo_23 mj_23 ml_23 _ (xs ((v23_4 + 1)).toNatClampNeg) (xs ((v23_4 + 2)).toNatClampNeg) hq37) (cwV 2 hts gL_law_X5_needs rfl rfl rfl (by decide +kernel) ⟨Nat.le_of_ble_eq_true rfl, Nat.le_of_ble_eq_true rfl⟩) ⟨PW.blind, va_recv hK hP (ci := 5) (q0 := 16) rfl rfl, fun U hU hW => ⟨rfl, hg U hU hW⟩⟩ rfl rfl hl.1 rfl (lv_room (Nat.le_of_ble_eq_true rfl)) dL_law_350 ⟨(show (kc + 2) + 0 ≤ 601024 from by omega), (show (ks + 12) + 0 ≤ 7293034 from by omega)⟩) (fun r37 u H locs hw hP hD hS => ?_)
          obtain ⟨u37_0, rfl⟩ : ∃ z, z = u := ⟨_, rfl⟩
          obtain ⟨hw, hb37⟩ := hw
          rw [hw] at he
          try dsimp only at he
          replace hp := hp r37 u37_0 hw
          have hP : va_P D vwCl (W_L cI cJ q0 n1_0 n1_1 n1_2 n1_3 n1_4 n1_5 n1_6 n1_7 n1_8 n1_9 n1_10 n1_11 n1_12 n1_13 n1_14 q8 n2_0 n2_1 n2_2 n2_3 n2_4 n2_5 n2_6 n2_7 n2_8 n2_9 n2_10 o0 xr_23 xt_23 gn_23 gu_23 gb_23 ga_23 lc_23 lk_23 ln_23 lt_23 ll_23 lr_23 tw_23 tn_23 ts_23 tt_23 mr_23 mc_23 me_23 mw_23 u37_0 mn_23 mu_23 ms_23 mt_23 md_23 mz_23 mi_23 mk_23 mo_23 mj_23 ml_23 u34_0) H := hP
          have hD : va_D A (W_L cI cJ q0 n1_0 n1_1 n1_2 n1_3 n1_4 n1_5 n1_6 n1_7 n1_8 n1_9 n1_10 n1_11 n1_12 n1_13 n1_14 q8 n2_0 n2_1 n2_2 n2_3 n2_4 n2_5 n2_6 n2_7 n2_8 n2_9 n2_10 o0 xr_23 xt_23 gn_23 gu_23 gb_23 ga_23 lc_23 lk_23 ln_23 lt_23 ll_23 lr_23 tw_23 tn_23 ts_23 tt_23 mr_23 mc_23 me_23 mw_23 u37_0 mn_23 mu_23 ms_23 mt_23 md_23 mz_23 mi_23 mk_23 mo_23 mj_23 ml_23 u34_0) := hD
          refine lv_istore (lv' := [(6, .int r37), (5, .int r34), (4, .int v23_4), (3, .ref o0), (2, .ref q8), (1, .ref q0), (0, .ref b0)]) hx hb dL_law_353 hl (by decide) rfl (fun ls hl => ?_)
          refine lv_aload_n hx hb dL_law_355 rfl (lv_at hl 4 rfl) ?_
          refine k_calli (S := Unit) (wc := (W_X5 cI q8 n2_0 n2_1 n2_2 n2_3 n2_4 n2_5 n2_6 n2_7 n2_8 n2_9 n2_10 mr_23 mc_23 me_23 mw_23 u37_0 mn_23 mu_23 ms_23 mt_23 md_23 mz_23 mi_23 mk_23 mo_23 mj_23 ml_23)) (wr := (W_O cI cJ q0 n1_0 n1_1 n1_2 n1_3 n1_4 n1_5 n1_6 n1_7 n1_8 n1_9 n1_10 n1_11 n1_12 n1_13 n1_14 o0 xr_23 xt_23 gn_23 gu_23 gb_23 ga_23 lc_23 lk_23 ln_23 lt_23 ll_23 lr_23 tw_23 tn_23 ts_23 tt_23 u34_0)) (w1 := fun u => (W_X5 cI q8 n2_0 n2_1 n2_2 n2_3 n2_4 n2_5 n2_6 n2_7 n2_8 n2_9 n2_10 mr_23 mc_23 me_23 mw_23 u37_0 mn_23 mu_23 ms_23 mt_23 md_23 mz_23 mi_23 mk_23 mo_23 mj_23 ml_23)) (fun u => (W_L cI cJ q0 n1_0 n1_1 n1_2 n1_3 n1_4 n1_5 n1_6 n1_7 n1_8 n1_9 n1_10 n1_11 n1_12 n1_13 n1_14 q8 n2_0 n2_1 n2_2 n2_3 n2_4 n2_5 n2_6 n2_7 n2_8 n2_9 n2_10 o0 xr_23 xt_23 gn_23 gu_23 gb_23 ga_23 lc_23 lk_23 ln_23 lt_23 ll_23 lr_23 tw_23 tn_23 ts_23 tt_23 mr_23 mc_23 me_23 mw_23 u37_0 mn_23 mu_23 ms_23 mt_23 md_23 mz_23 mi_23 mk_23 mo_23 mj_23 ml_23 u34_0)) hP hK hD hN hS hA [16, 17, 18, 19, 20, 21, 22, 23, 24, 25, 26, 27] [0, 1, 2, 3, 4, 5, 6, 7, 8, 9, 10, 11, 12, 13, 14, 15, 28] rfl rfl (by decide) (by decide) (by decide) [0, 1, 2, 3, 4, 5, 6, 7, 8, 9, 10, 11, 12, 13, 14, 15, 17, 18, 19, 20, 21, 22, 23, 24, 25, 26, 27, 28, 16] (by decide) (fun _ => rfl) (fun hg => va_runV (As := []) (rest := []) ⟨hx, hb, hml, hown, hts⟩ (c_X5_thrown l D cI q8 n2_0 n2_1 n2_2 n2_3 n2_4 n2_5 n2_6 n2_7 n2_8 n2_9 n2_10 mr_23 mc_23 me_23 mw_23 u37_0 mn_23 mu_23 ms_23 mt_23 md_23 mz_23 mi_23 mk_23 mo_23 mj_23 ml_23 _ ) (cwV 0 hts gL_law_X5_thrown rfl rfl rfl (by decide +kernel) ⟨Nat.le_of_ble_eq_true rfl, Nat.le_of_ble_eq_true rfl⟩) ⟨PW.blind, va_recv hK hP (ci := 5) (q0 := 16) rfl rfl, fun U hU hW => ⟨rfl, hg U hU hW⟩⟩ rfl rfl hl.1 rfl (lv_room (Nat.le_of_ble_eq_true rfl)) dL_law_356 ⟨(show (kc + 2) + 0 ≤ 601024 from by omega), (show (ks + 12) + 0 ≤ 7293034 from by omega)⟩) (fun r38 u H locs hw hP hD hS => ?_)
          subst hw
          refine lv_iload hx hb dL_law_359 (lv_at hl 1 rfl) ?_
          refine lv_icmp_eq (tgt := 366) hx hb dL_law_361 (by decide) (fun c39 => ?_) (fun c39 => ?_)
          · replace hp := hp.1 c39
            replace he := he.trans (if_pos c39)
            refine lv_iload hx hb dL_law_366 (lv_at hl 1 rfl) ?_
            refine lv_if_ne (tgt := 390) hx hb dL_law_368 (by decide) (fun c40 => ?_) (fun c40 => ?_)
            · replace hp := hp.2 c40
              replace he := he.trans (if_neg c40)
              refine lv_goto (tgt := 1579) hx hb dL_law_390 (by decide) ?_
              refine lv_iinc (v := (v23_4 + 3)) (lv' := [(4, .int (v23_4 + 3)), (6, .int r37), (5, .int r34), (3, .ref o0), (2, .ref q8), (1, .ref q0), (0, .ref b0)]) hx hb dL_law_1579 hl (k := 2) rfl rfl (by decide) rfl (fun ls hl => ?_)
              refine lv_goto (tgt := 23) hx hb dL_law_1582 (by decide) ?_
              refine W.widen (k := kc + 2) (n := ks + 9) (by omega) (by omega) ?_
              exact ih _ _ _ _ _ _ _ _ _ _ _ _ _ _ _ _ _ _ _ _ _ _ _ _ _ _ _ _ _ _ _ _ _ _ (kc + 2) (ks + 9) (by omega) (by omega) hp he _ _ hP hD hS _ (lv_sub hl [0, 3, 4, 5, 6] rfl)
            · replace hp := hp.1 c40
              replace he := he.trans (if_pos c40)
              refine lv_aload_n hx hb dL_law_371 rfl (lv_at hl 3 rfl) ?_
              refine lv_iconst (v := 0) hx hb dL_law_372 (by decide) ?_
              refine va_lald hx hb hK hP 28 1 rfl rfl (by decide) dL_law_373 ?_
              refine lv_iload hx hb dL_law_374 (lv_at hl 0 rfl) ?_
              obtain ⟨j42, hJ42⟩ : ∃ z : Int64, z = (if r37 = 0 then (0 : Int64) else (1 : Int64)) := ⟨_, rfl⟩
              rw [← hJ42] at he
              try dsimp only at he
              have hpJ42 := hp.1
              replace hp := hp.2 _  hJ42.symm
              have kont42 : ∀ (H : Heap) (locs : List Loc), va_P D vwCl (W_L cI cJ q0 n1_0 n1_1 n1_2 n1_3 n1_4 n1_5 n1_6 n1_7 n1_8 n1_9 n1_10 n1_11 n1_12 n1_13 n1_14 q8 n2_0 n2_1 n2_2 n2_3 n2_4 n2_5 n2_6 n2_7 n2_8 n2_9 n2_10 o0 xr_23 xt_23 gn_23 gu_23 gb_23 ga_23 lc_23 lk_23 ln_23 lt_23 ll_23 lr_23 tw_23 tn_23 ts_23 tt_23 mr_23 mc_23 me_23 mw_23 u37_0 mn_23 mu_23 ms_23 mt_23 md_23 mz_23 mi_23 mk_23 mo_23 mj_23 ml_23 u34_0) H → va_D A (W_L cI cJ q0 n1_0 n1_1 n1_2 n1_3 n1_4 n1_5 n1_6 n1_7 n1_8 n1_9 n1_10 n1_11 n1_12 n1_13 n1_14 q8 n2_0 n2_1 n2_2 n2_3 n2_4 n2_5 n2_6 n2_7 n2_8 n2_9 n2_10 o0 xr_23 xt_23 gn_23 gu_23 gb_23 ga_23 lc_23 lk_23 ln_23 lt_23 ll_23 lr_23 tw_23 tn_23 ts_23 tt_23 mr_23 mc_23 me_23 mw_23 u37_0 mn_23 mu_23 ms_23 mt_23 md_23 mz_23 mi_23 mk_23 mo_23 mj_23 ml_23 u34_0) → va_S A s.heap H locs → ∀ ls : Array Slot, lv_has ls 7 [(4, .int v23_4), (3, .ref o0), (2, .ref q8), (1, .ref q0), (0, .ref b0)] → W p l e room_1 s m #[Value.ref b0] below meth c H locs (kc + 2) (ks + 12) (lw_Z below #[Value.ref b0] s) (F0 m 384 ls [.long j42, .long (u34_0 (0 : Int32).toNatClampNeg)]) := by
                intro H locs hP hD hS ls hl
                refine W.lcmp hx hb dL_law_384 ?_
                refine lv_if_eq (tgt := 390) hx hb dL_law_385 (by decide) (fun c44 => ?_) (fun c44 => ?_)
                · replace hp := hp.1 c44
                  replace he := he.trans (if_pos c44)
                  refine lv_goto (tgt := 1579) hx hb dL_law_390 (by decide) ?_
                  refine lv_iinc (v := (v23_4 + 3)) (lv' := [(4, .int (v23_4 + 3)), (3, .ref o0), (2, .ref q8), (1, .ref q0), (0, .ref b0)]) hx hb dL_law_1579 hl (k := 0) rfl rfl (by decide) rfl (fun ls hl => ?_)
                  refine lv_goto (tgt := 23) hx hb dL_law_1582 (by decide) ?_
                  refine W.widen (k := kc + 2) (n := ks + 9) (by omega) (by omega) ?_
                  exact ih _ _ _ _ _ _ _ _ _ _ _ _ _ _ _ _ _ _ _ _ _ _ _ _ _ _ _ _ _ _ _ _ _ _ (kc + 2) (ks + 9) (by omega) (by omega) hp he _ _ hP hD hS _ (lv_sub hl [0, 1, 2, 3, 4] rfl)
                · replace hp := hp.2 c44
                  replace he := he.trans (if_neg c44)
                  refine lv_iconst (v := 0) hx hb dL_law_388 (by decide) ?_
                  exact absurd he (by decide)
              replace he := hJ42
              replace hp := hpJ42
              refine lv_if_eq (tgt := 383) hx hb dL_law_376 (by decide) (fun c43 => ?_) (fun c43 => ?_)
              · replace hp := hp.1 c43
                replace he := he.trans (if_pos c43)
                refine lv_lconst (v := 0) hx hb dL_law_383 rfl ?_
                subst he
                exact kont42 _ _ hP hD hS _ (lv_sub hl [2, 3, 4, 5, 6] rfl)
              · replace hp := hp.2 c43
                replace he := he.trans (if_neg c43)
                refine lv_lconst (v := 1) hx hb dL_law_379 rfl ?_
                refine lv_goto (tgt := 384) hx hb dL_law_380 (by decide) ?_
                subst he
                exact kont42 _ _ hP hD hS _ (lv_sub hl [2, 3, 4, 5, 6] rfl)
          · replace hp := hp.2 c39
            replace he := he.trans (if_neg c39)
            refine lv_iconst (v := 0) hx hb dL_law_364 (by decide) ?_
            exact absurd he (by decide)
        replace he := he.trans (if_neg s2)
        replace hp := hp.2 s2
        rcases Decidable.em (((xs (v23_4).toNatClampNeg) &&& 31) = 3) with s3 | s3
        · replace he := he.trans (if_pos s3)
          replace hp := hp.1 s3
          refine lv_tableIn (off := 354) (tgt := 393) hx hb dL_law_39 (by rw [s3]; decide) (by rw [s3]; decide) (by rw [s3]; rfl) (by decide) ?_
          refine lv_aload_n hx hb dL_law_393 rfl (lv_at hl 3 rfl) ?_
          refine lv_aload_n hx hb dL_law_394 rfl (lv_at hl 4 rfl) ?_
          refine lv_iload hx hb dL_law_395 (lv_at hl 0 rfl) ?_
          refine lv_iconst (v := 1) hx hb dL_law_397 (by decide) ?_
          refine lv_iadd hx hb dL_law_398 ?_
          have h45 := hp.1
          replace hp := hp.2
          refine va_sld hx hb hX hbl hbA hS h45 dL_law_399 ?_
          refine lv_aload_n hx hb dL_law_400 rfl (lv_at hl 4 rfl) ?_
          refine lv_iload hx hb dL_law_401 (lv_at hl 0 rfl) ?_
          refine lv_iconst (v := 2) hx hb dL_law_403 (by decide) ?_
          refine lv_iadd hx hb dL_law_404 ?_
          have h46 := hp.1
          replace hp := hp.2
          refine va_sld hx hb hX hbl hbA hS h46 dL_law_405 ?_
          refine lv_aload_n hx hb dL_law_406 rfl (lv_at hl 1 rfl) ?_
          have hq47 := hp.1
          replace hp := hp.2
          refine k_ycalli (S := LA) (wc := (W_O cI cJ q0 n1_0 n1_1 n1_2 n1_3 n1_4 n1_5 n1_6 n1_7 n1_8 n1_9 n1_10 n1_11 n1_12 n1_13 n1_14 o0 xr_23 xt_23 gn_23 gu_23 gb_23 ga_23 lc_23 lk_23 ln_23 lt_23 ll_23 lr_23 tw_23 tn_23 ts_23 tt_23 oo_23)) (wr := (W_X5 cI q8 n2_0 n2_1 n2_2 n2_3 n2_4 n2_5 n2_6 n2_7 n2_8 n2_9 n2_10 mr_23 mc_23 me_23 mw_23 mh_23 mn_23 mu_23 ms_23 mt_23 md_23 mz_23 mi_23 mk_23 mo_23 mj_23 ml_23)) (w1 := fun u => (W_O cI cJ q0 n1_0 n1_1 n1_2 n1_3 n1_4 n1_5 n1_6 n1_7 n1_8 n1_9 n1_10 n1_11 n1_12 n1_13 n1_14 o0 xr_23 xt_23 gn_23 gu_23 gb_23 ga_23 lc_23 lk_23 ln_23 lt_23 ll_23 lr_23 tw_23 tn_23 ts_23 tt_23 u)) (fun u => (W_L cI cJ q0 n1_0 n1_1 n1_2 n1_3 n1_4 n1_5 n1_6 n1_7 n1_8 n1_9 n1_10 n1_11 n1_12 n1_13 n1_14 q8 n2_0 n2_1 n2_2 n2_3 n2_4 n2_5 n2_6 n2_7 n2_8 n2_9 n2_10 o0 xr_23 xt_23 gn_23 gu_23 gb_23 ga_23 lc_23 lk_23 ln_23 lt_23 ll_23 lr_23 tw_23 tn_23 ts_23 tt_23 mr_23 mc_23 me_23 mw_23 mh_23 mn_23 mu_23 ms_23 mt_23 md_23 mz_23 mi_23 mk_23 mo_23 mj_23 ml_23 u)) hP hK hD hN hXB hS hA [0, 1, 2, 3, 4, 5, 6, 7, 8, 9, 10, 11, 12, 13, 14, 15, 28] [16, 17, 18, 19, 20, 21, 22, 23, 24, 25, 26, 27] rfl rfl (by decide) (by decide) (by decide) [12, 13, 14, 15, 16, 17, 18, 19, 20, 21, 22, 23, 24, 25, 26, 27, 0, 1, 2, 3, 4, 5, 6, 7, 8, 9, 10, 11, 28] (by decide) (fun _ => rfl) (fun hg => va_runS (As := [.ref q0, .int (xs ((v23_4 + 1)).toNatClampNeg), .int (xs ((v23_4 + 2)).toNatClampNeg), .ref o0]) (rest := []) ⟨hx, hb, hml, hown, hts⟩ (c_L_dependsOn l D cI cJ q0 n1_0 n1_1 n1_2 n1_3 n1_4 n1_5 n1_6 n1_7 n1_8 n1_9 n1_10 n1_11 n1_12 n1_13 n1_14 o0 xr_23 xt_23 gn_23 gu_23 gb_23 ga_23 lc_23 lk_23 ln_23 lt_23 ll_23 lr_23 tw_23 tn_23 ts_23 tt_23 oo_23 _ (xs ((v23_4 + 1)).toNatClampNeg) (xs ((v23_4 + 2)).toNatClampNeg) hq47 hst) (va_cwS 4 hts gL_law_L_dependsOn rfl rfl rfl (by decide +kernel) ⟨Nat.le_of_ble_eq_true rfl, Nat.le_of_ble_eq_true rfl⟩) ⟨PX.blind, fun U hU hW => ⟨rfl, hg U hU hW⟩⟩ rfl rfl hl.1 rfl (lv_room (Nat.le_of_ble_eq_true rfl)) dL_law_407 ⟨(show kc + 2 ≤ 601024 from by omega), (show ks + 12 ≤ 7293034 from by omega)⟩) (fun r47 u H locs hw hP hD hS => ?_)
          obtain ⟨u47_0, rfl⟩ : ∃ z, z = u := ⟨_, rfl⟩
          rw [hw] at he
          try dsimp only at he
          replace hp := hp r47 u47_0 hw
          have hP : va_P D vwCl (W_L cI cJ q0 n1_0 n1_1 n1_2 n1_3 n1_4 n1_5 n1_6 n1_7 n1_8 n1_9 n1_10 n1_11 n1_12 n1_13 n1_14 q8 n2_0 n2_1 n2_2 n2_3 n2_4 n2_5 n2_6 n2_7 n2_8 n2_9 n2_10 o0 xr_23 xt_23 gn_23 gu_23 gb_23 ga_23 lc_23 lk_23 ln_23 lt_23 ll_23 lr_23 tw_23 tn_23 ts_23 tt_23 mr_23 mc_23 me_23 mw_23 mh_23 mn_23 mu_23 ms_23 mt_23 md_23 mz_23 mi_23 mk_23 mo_23 mj_23 ml_23 u47_0) H := hP
          have hD : va_D A (W_L cI cJ q0 n1_0 n1_1 n1_2 n1_3 n1_4 n1_5 n1_6 n1_7 n1_8 n1_9 n1_10 n1_11 n1_12 n1_13 n1_14 q8 n2_0 n2_1 n2_2 n2_3 n2_4 n2_5 n2_6 n2_7 n2_8 n2_9 n2_10 o0 xr_23 xt_23 gn_23 gu_23 gb_23 ga_23 lc_23 lk_23 ln_23 lt_23 ll_23 lr_23 tw_23 tn_23 ts_23 tt_23 mr_23 mc_23 me_23 mw_23 mh_23 mn_23 mu_23 ms_23 mt_23 md_23 mz_23 mi_23 mk_23 mo_23 mj_23 ml_23 u47_0) := hD
          refine lv_istore (lv' := [(5, .int r47), (4, .int v23_4), (3, .ref o0), (2, .ref q8), (1, .ref q0), (0, .ref b0)]) hx hb dL_law_410 hl (by decide) rfl (fun ls hl => ?_)
          refine lv_aload_n hx hb dL_law_412 rfl (lv_at hl 3 rfl) ?_
          refine lv_aload_n hx hb dL_law_413 rfl (lv_at hl 5 rfl) ?_
          refine lv_iload hx hb dL_law_414 (lv_at hl 1 rfl) ?_
          refine lv_iconst (v := 1) hx hb dL_law_416 (by decide) ?_
          refine lv_iadd hx hb dL_law_417 ?_
          have h48 := hp.1
          replace hp := hp.2
          refine va_sld hx hb hX hbl hbA hS h48 dL_law_418 ?_
          refine lv_aload_n hx hb dL_law_419 rfl (lv_at hl 5 rfl) ?_
          refine lv_iload hx hb dL_law_420 (lv_at hl 1 rfl) ?_
          refine lv_iconst (v := 2) hx hb dL_law_422 (by decide) ?_
          refine lv_iadd hx hb dL_law_423 ?_
          have h49 := hp.1
          replace hp := hp.2
          refine va_sld hx hb hX hbl hbA hS h49 dL_law_424 ?_
          have hq50 := hp.1
          replace hp := hp.2
          refine k_calli (S := Int32) (wc := (W_X5 cI q8 n2_0 n2_1 n2_2 n2_3 n2_4 n2_5 n2_6 n2_7 n2_8 n2_9 n2_10 mr_23 mc_23 me_23 mw_23 mh_23 mn_23 mu_23 ms_23 mt_23 md_23 mz_23 mi_23 mk_23 mo_23 mj_23 ml_23)) (wr := (W_O cI cJ q0 n1_0 n1_1 n1_2 n1_3 n1_4 n1_5 n1_6 n1_7 n1_8 n1_9 n1_10 n1_11 n1_12 n1_13 n1_14 o0 xr_23 xt_23 gn_23 gu_23 gb_23 ga_23 lc_23 lk_23 ln_23 lt_23 ll_23 lr_23 tw_23 tn_23 ts_23 tt_23 u47_0)) (w1 := fun u => (W_X5 cI q8 n2_0 n2_1 n2_2 n2_3 n2_4 n2_5 n2_6 n2_7 n2_8 n2_9 n2_10 mr_23 mc_23 me_23 mw_23 u mn_23 mu_23 ms_23 mt_23 md_23 mz_23 mi_23 mk_23 mo_23 mj_23 ml_23)) (fun u => (W_L cI cJ q0 n1_0 n1_1 n1_2 n1_3 n1_4 n1_5 n1_6 n1_7 n1_8 n1_9 n1_10 n1_11 n1_12 n1_13 n1_14 q8 n2_0 n2_1 n2_2 n2_3 n2_4 n2_5 n2_6 n2_7 n2_8 n2_9 n2_10 o0 xr_23 xt_23 gn_23 gu_23 gb_23 ga_23 lc_23 lk_23 ln_23 lt_23 ll_23 lr_23 tw_23 tn_23 ts_23 tt_23 mr_23 mc_23 me_23 mw_23 u mn_23 mu_23 ms_23 mt_23 md_23 mz_23 mi_23 mk_23 mo_23 mj_23 ml_23 u47_0)) hP hK hD hN hS hA [16, 17, 18, 19, 20, 21, 22, 23, 24, 25, 26, 27] [0, 1, 2, 3, 4, 5, 6, 7, 8, 9, 10, 11, 12, 13, 14, 15, 28] rfl rfl (by decide) (by decide) (by decide) [0, 1, 2, 3, 4, 5, 6, 7, 8, 9, 10, 11, 12, 13, 14, 15, 17, 18, 19, 20, 21, 22, 23, 24, 25, 26, 27, 28, 16] (by decide) (fun _ => rfl) (fun hg => va_runV (As := [.int (xs ((v23_4 + 1)).toNatClampNeg), .int (xs ((v23_4 + 2)).toNatClampNeg)]) (rest := []) ⟨hx, hb, hml, hown, hts⟩ (c_X5_dependsOn l D cI q8 n2_0 n2_1 n2_2 n2_3 n2_4 n2_5 n2_6 n2_7 n2_8 n2_9 n2_10 mr_23 mc_23 me_23 mw_23 mh_23 mn_23 mu_23 ms_23 mt_23 md_23 mz_23 mi_23 mk_23 mo_23 mj_23 ml_23 _ (xs ((v23_4 + 1)).toNatClampNeg) (xs ((v23_4 + 2)).toNatClampNeg) hq50) (cwV 2 hts gL_law_X5_dependsOn rfl rfl rfl (by decide +kernel) ⟨Nat.le_of_ble_eq_true rfl, Nat.le_of_ble_eq_true rfl⟩) ⟨PW.blind, va_recv hK hP (ci := 5) (q0 := 16) rfl rfl, fun U hU hW => ⟨rfl, hg U hU hW⟩⟩ rfl rfl hl.1 rfl (lv_room (Nat.le_of_ble_eq_true rfl)) dL_law_425 ⟨(show (kc + 2) + 0 ≤ 601024 from by omega), (show (ks + 12) + 0 ≤ 7293034 from by omega)⟩) (fun r50 u H locs hw hP hD hS => ?_)
          obtain ⟨u50_0, rfl⟩ : ∃ z, z = u := ⟨_, rfl⟩
          obtain ⟨hw, hb50⟩ := hw
          rw [hw] at he
          try dsimp only at he
          replace hp := hp r50 u50_0 hw
          have hP : va_P D vwCl (W_L cI cJ q0 n1_0 n1_1 n1_2 n1_3 n1_4 n1_5 n1_6 n1_7 n1_8 n1_9 n1_10 n1_11 n1_12 n1_13 n1_14 q8 n2_0 n2_1 n2_2 n2_3 n2_4 n2_5 n2_6 n2_7 n2_8 n2_9 n2_10 o0 xr_23 xt_23 gn_23 gu_23 gb_23 ga_23 lc_23 lk_23 ln_23 lt_23 ll_23 lr_23 tw_23 tn_23 ts_23 tt_23 mr_23 mc_23 me_23 mw_23 u50_0 mn_23 mu_23 ms_23 mt_23 md_23 mz_23 mi_23 mk_23 mo_23 mj_23 ml_23 u47_0) H := hP
          have hD : va_D A (W_L cI cJ q0 n1_0 n1_1 n1_2 n1_3 n1_4 n1_5 n1_6 n1_7 n1_8 n1_9 n1_10 n1_11 n1_12 n1_13 n1_14 q8 n2_0 n2_1 n2_2 n2_3 n2_4 n2_5 n2_6 n2_7 n2_8 n2_9 n2_10 o0 xr_23 xt_23 gn_23 gu_23 gb_23 ga_23 lc_23 lk_23 ln_23 lt_23 ll_23 lr_23 tw_23 tn_23 ts_23 tt_23 mr_23 mc_23 me_23 mw_23 u50_0 mn_23 mu_23 ms_23 mt_23 md_23 mz_23 mi_23 mk_23 mo_23 mj_23 ml_23 u47_0) := hD
          refine lv_istore (lv' := [(6, .int r50), (5, .int r47), (4, .int v23_4), (3, .ref o0), (2, .ref q8), (1, .ref q0), (0, .ref b0)]) hx hb dL_law_428 hl (by decide) rfl (fun ls hl => ?_)
          refine lv_aload_n hx hb dL_law_430 rfl (lv_at hl 4 rfl) ?_
          refine k_calli (S := Unit) (wc := (W_X5 cI q8 n2_0 n2_1 n2_2 n2_3 n2_4 n2_5 n2_6 n2_7 n2_8 n2_9 n2_10 mr_23 mc_23 me_23 mw_23 u50_0 mn_23 mu_23 ms_23 mt_23 md_23 mz_23 mi_23 mk_23 mo_23 mj_23 ml_23)) (wr := (W_O cI cJ q0 n1_0 n1_1 n1_2 n1_3 n1_4 n1_5 n1_6 n1_7 n1_8 n1_9 n1_10 n1_11 n1_12 n1_13 n1_14 o0 xr_23 xt_23 gn_23 gu_23 gb_23 ga_23 lc_23 lk_23 ln_23 lt_23 ll_23 lr_23 tw_23 tn_23 ts_23 tt_23 u47_0)) (w1 := fun u => (W_X5 cI q8 n2_0 n2_1 n2_2 n2_3 n2_4 n2_5 n2_6 n2_7 n2_8 n2_9 n2_10 mr_23 mc_23 me_23 mw_23 u50_0 mn_23 mu_23 ms_23 mt_23 md_23 mz_23 mi_23 mk_23 mo_23 mj_23 ml_23)) (fun u => (W_L cI cJ q0 n1_0 n1_1 n1_2 n1_3 n1_4 n1_5 n1_6 n1_7 n1_8 n1_9 n1_10 n1_11 n1_12 n1_13 n1_14 q8 n2_0 n2_1 n2_2 n2_3 n2_4 n2_5 n2_6 n2_7 n2_8 n2_9 n2_10 o0 xr_23 xt_23 gn_23 gu_23 gb_23 ga_23 lc_23 lk_23 ln_23 lt_23 ll_23 lr_23 tw_23 tn_23 ts_23 tt_23 mr_23 mc_23 me_23 mw_23 u50_0 mn_23 mu_23 ms_23 mt_23 md_23 mz_23 mi_23 mk_23 mo_23 mj_23 ml_23 u47_0)) hP hK hD hN hS hA [16, 17, 18, 19, 20, 21, 22, 23, 24, 25, 26, 27] [0, 1, 2, 3, 4, 5, 6, 7, 8, 9, 10, 11, 12, 13, 14, 15, 28] rfl rfl (by decide) (by decide) (by decide) [0, 1, 2, 3, 4, 5, 6, 7, 8, 9, 10, 11, 12, 13, 14, 15, 17, 18, 19, 20, 21, 22, 23, 24, 25, 26, 27, 28, 16] (by decide) (fun _ => rfl) (fun hg => va_runV (As := []) (rest := []) ⟨hx, hb, hml, hown, hts⟩ (c_X5_thrown l D cI q8 n2_0 n2_1 n2_2 n2_3 n2_4 n2_5 n2_6 n2_7 n2_8 n2_9 n2_10 mr_23 mc_23 me_23 mw_23 u50_0 mn_23 mu_23 ms_23 mt_23 md_23 mz_23 mi_23 mk_23 mo_23 mj_23 ml_23 _ ) (cwV 0 hts gL_law_X5_thrown rfl rfl rfl (by decide +kernel) ⟨Nat.le_of_ble_eq_true rfl, Nat.le_of_ble_eq_true rfl⟩) ⟨PW.blind, va_recv hK hP (ci := 5) (q0 := 16) rfl rfl, fun U hU hW => ⟨rfl, hg U hU hW⟩⟩ rfl rfl hl.1 rfl (lv_room (Nat.le_of_ble_eq_true rfl)) dL_law_431 ⟨(show (kc + 2) + 0 ≤ 601024 from by omega), (show (ks + 12) + 0 ≤ 7293034 from by omega)⟩) (fun r51 u H locs hw hP hD hS => ?_)
          subst hw
          refine lv_iload hx hb dL_law_434 (lv_at hl 1 rfl) ?_
          refine lv_icmp_eq (tgt := 441) hx hb dL_law_436 (by decide) (fun c52 => ?_) (fun c52 => ?_)
          · replace hp := hp.1 c52
            replace he := he.trans (if_pos c52)
            refine lv_iload hx hb dL_law_441 (lv_at hl 1 rfl) ?_
            refine lv_if_ne (tgt := 465) hx hb dL_law_443 (by decide) (fun c53 => ?_) (fun c53 => ?_)
            · replace hp := hp.2 c53
              replace he := he.trans (if_neg c53)
              refine lv_goto (tgt := 1579) hx hb dL_law_465 (by decide) ?_
              refine lv_iinc (v := (v23_4 + 3)) (lv' := [(4, .int (v23_4 + 3)), (6, .int r50), (5, .int r47), (3, .ref o0), (2, .ref q8), (1, .ref q0), (0, .ref b0)]) hx hb dL_law_1579 hl (k := 2) rfl rfl (by decide) rfl (fun ls hl => ?_)
              refine lv_goto (tgt := 23) hx hb dL_law_1582 (by decide) ?_
              refine W.widen (k := kc + 2) (n := ks + 9) (by omega) (by omega) ?_
              exact ih _ _ _ _ _ _ _ _ _ _ _ _ _ _ _ _ _ _ _ _ _ _ _ _ _ _ _ _ _ _ _ _ _ _ (kc + 2) (ks + 9) (by omega) (by omega) hp he _ _ hP hD hS _ (lv_sub hl [0, 3, 4, 5, 6] rfl)
            · replace hp := hp.1 c53
              replace he := he.trans (if_pos c53)
              refine lv_aload_n hx hb dL_law_446 rfl (lv_at hl 3 rfl) ?_
              refine lv_iconst (v := 0) hx hb dL_law_447 (by decide) ?_
              refine va_lald hx hb hK hP 28 1 rfl rfl (by decide) dL_law_448 ?_
              refine lv_iload hx hb dL_law_449 (lv_at hl 0 rfl) ?_
              obtain ⟨j55, hJ55⟩ : ∃ z : Int64, z = (if r50 = 0 then (0 : Int64) else (1 : Int64)) := ⟨_, rfl⟩
              rw [← hJ55] at he
              try dsimp only at he
              have hpJ55 := hp.1
              replace hp := hp.2 _  hJ55.symm
              have kont55 : ∀ (H : Heap) (locs : List Loc), va_P D vwCl (W_L cI cJ q0 n1_0 n1_1 n1_2 n1_3 n1_4 n1_5 n1_6 n1_7 n1_8 n1_9 n1_10 n1_11 n1_12 n1_13 n1_14 q8 n2_0 n2_1 n2_2 n2_3 n2_4 n2_5 n2_6 n2_7 n2_8 n2_9 n2_10 o0 xr_23 xt_23 gn_23 gu_23 gb_23 ga_23 lc_23 lk_23 ln_23 lt_23 ll_23 lr_23 tw_23 tn_23 ts_23 tt_23 mr_23 mc_23 me_23 mw_23 u50_0 mn_23 mu_23 ms_23 mt_23 md_23 mz_23 mi_23 mk_23 mo_23 mj_23 ml_23 u47_0) H → va_D A (W_L cI cJ q0 n1_0 n1_1 n1_2 n1_3 n1_4 n1_5 n1_6 n1_7 n1_8 n1_9 n1_10 n1_11 n1_12 n1_13 n1_14 q8 n2_0 n2_1 n2_2 n2_3 n2_4 n2_5 n2_6 n2_7 n2_8 n2_9 n2_10 o0 xr_23 xt_23 gn_23 gu_23 gb_23 ga_23 lc_23 lk_23 ln_23 lt_23 ll_23 lr_23 tw_23 tn_23 ts_23 tt_23 mr_23 mc_23 me_23 mw_23 u50_0 mn_23 mu_23 ms_23 mt_23 md_23 mz_23 mi_23 mk_23 mo_23 mj_23 ml_23 u47_0) → va_S A s.heap H locs → ∀ ls : Array Slot, lv_has ls 7 [(4, .int v23_4), (3, .ref o0), (2, .ref q8), (1, .ref q0), (0, .ref b0)] → W p l e room_1 s m #[Value.ref b0] below meth c H locs (kc + 2) (ks + 12) (lw_Z below #[Value.ref b0] s) (F0 m 459 ls [.long j55, .long (u47_0 (0 : Int32).toNatClampNeg)]) := by
                intro H locs hP hD hS ls hl
                refine W.lcmp hx hb dL_law_459 ?_
                refine lv_if_eq (tgt := 465) hx hb dL_law_460 (by decide) (fun c57 => ?_) (fun c57 => ?_)
                · replace hp := hp.1 c57
                  replace he := he.trans (if_pos c57)
                  refine lv_goto (tgt := 1579) hx hb dL_law_465 (by decide) ?_
                  refine lv_iinc (v := (v23_4 + 3)) (lv' := [(4, .int (v23_4 + 3)), (3, .ref o0), (2, .ref q8), (1, .ref q0), (0, .ref b0)]) hx hb dL_law_1579 hl (k := 0) rfl rfl (by decide) rfl (fun ls hl => ?_)
                  refine lv_goto (tgt := 23) hx hb dL_law_1582 (by decide) ?_
                  refine W.widen (k := kc + 2) (n := ks + 9) (by omega) (by omega) ?_
                  exact ih _ _ _ _ _ _ _ _ _ _ _ _ _ _ _ _ _ _ _ _ _ _ _ _ _ _ _ _ _ _ _ _ _ _ (kc + 2) (ks + 9) (by omega) (by omega) hp he _ _ hP hD hS _ (lv_sub hl [0, 1, 2, 3, 4] rfl)
                · replace hp := hp.2 c57
                  replace he := he.trans (if_neg c57)
                  refine lv_iconst (v := 0) hx hb dL_law_463 (by decide) ?_
                  exact absurd he (by decide)
              replace he := hJ55
              replace hp := hpJ55
              refine lv_if_eq (tgt := 458) hx hb dL_law_451 (by decide) (fun c56 => ?_) (fun c56 => ?_)
              · replace hp := hp.1 c56
                replace he := he.trans (if_pos c56)
                refine lv_lconst (v := 0) hx hb dL_law_458 rfl ?_
                subst he
                exact kont55 _ _ hP hD hS _ (lv_sub hl [2, 3, 4, 5, 6] rfl)
              · replace hp := hp.2 c56
                replace he := he.trans (if_neg c56)
                refine lv_lconst (v := 1) hx hb dL_law_454 rfl ?_
                refine lv_goto (tgt := 459) hx hb dL_law_455 (by decide) ?_
                subst he
                exact kont55 _ _ hP hD hS _ (lv_sub hl [2, 3, 4, 5, 6] rfl)
          · replace hp := hp.2 c52
            replace he := he.trans (if_neg c52)
            refine lv_iconst (v := 0) hx hb dL_law_439 (by decide) ?_
            exact absurd he (by decide)
        replace he := he.trans (if_neg s3)
        replace hp := hp.2 s3
        rcases Decidable.em (((xs (v23_4).toNatClampNeg) &&& 31) = 4) with s4 | s4
        · replace he := he.trans (if_pos s4)
          replace hp := hp.1 s4
          refine lv_tableIn (off := 429) (tgt := 468) hx hb dL_law_39 (by rw [s4]; decide) (by rw [s4]; decide) (by rw [s4]; rfl) (by decide) ?_
          refine lv_aload_n hx hb dL_law_468 rfl (lv_at hl 3 rfl) ?_
          refine lv_aload_n hx hb dL_law_469 rfl (lv_at hl 4 rfl) ?_
          refine lv_iload hx hb dL_law_470 (lv_at hl 0 rfl) ?_
          refine lv_iconst (v := 1) hx hb dL_law_472 (by decide) ?_
          refine lv_iadd hx hb dL_law_473 ?_
          have h58 := hp.1
          replace hp := hp.2
          refine va_sld hx hb hX hbl hbA hS h58 dL_law_474 ?_
          refine lv_aload_n hx hb dL_law_475 rfl (lv_at hl 1 rfl) ?_
          have hq59 := hp.1
          replace hp := hp.2
          refine k_ycalli (S := LA) (wc := (W_O cI cJ q0 n1_0 n1_1 n1_2 n1_3 n1_4 n1_5 n1_6 n1_7 n1_8 n1_9 n1_10 n1_11 n1_12 n1_13 n1_14 o0 xr_23 xt_23 gn_23 gu_23 gb_23 ga_23 lc_23 lk_23 ln_23 lt_23 ll_23 lr_23 tw_23 tn_23 ts_23 tt_23 oo_23)) (wr := (W_X5 cI q8 n2_0 n2_1 n2_2 n2_3 n2_4 n2_5 n2_6 n2_7 n2_8 n2_9 n2_10 mr_23 mc_23 me_23 mw_23 mh_23 mn_23 mu_23 ms_23 mt_23 md_23 mz_23 mi_23 mk_23 mo_23 mj_23 ml_23)) (w1 := fun u => (W_O cI cJ q0 n1_0 n1_1 n1_2 n1_3 n1_4 n1_5 n1_6 n1_7 n1_8 n1_9 n1_10 n1_11 n1_12 n1_13 n1_14 o0 xr_23 xt_23 gn_23 gu_23 gb_23 ga_23 lc_23 lk_23 ln_23 lt_23 ll_23 lr_23 tw_23 tn_23 ts_23 tt_23 u)) (fun u => (W_L cI cJ q0 n1_0 n1_1 n1_2 n1_3 n1_4 n1_5 n1_6 n1_7 n1_8 n1_9 n1_10 n1_11 n1_12 n1_13 n1_14 q8 n2_0 n2_1 n2_2 n2_3 n2_4 n2_5 n2_6 n2_7 n2_8 n2_9 n2_10 o0 xr_23 xt_23 gn_23 gu_23 gb_23 ga_23 lc_23 lk_23 ln_23 lt_23 ll_23 lr_23 tw_23 tn_23 ts_23 tt_23 mr_23 mc_23 me_23 mw_23 mh_23 mn_23 mu_23 ms_23 mt_23 md_23 mz_23 mi_23 mk_23 mo_23 mj_23 ml_23 u)) hP hK hD hN hXB hS hA [0, 1, 2, 3, 4, 5, 6, 7, 8, 9, 10, 11, 12, 13, 14, 15, 28] [16, 17, 18, 19, 20, 21, 22, 23, 24, 25, 26, 27] rfl rfl (by decide) (by decide) (by decide) [12, 13, 14, 15, 16, 17, 18, 19, 20, 21, 22, 23, 24, 25, 26, 27, 0, 1, 2, 3, 4, 5, 6, 7, 8, 9, 10, 11, 28] (by decide) (fun _ => rfl) (fun hg => va_runS (As := [.ref q0, .int (xs ((v23_4 + 1)).toNatClampNeg), .ref o0]) (rest := []) ⟨hx, hb, hml, hown, hts⟩ (c_L_height l D cI cJ q0 n1_0 n1_1 n1_2 n1_3 n1_4 n1_5 n1_6 n1_7 n1_8 n1_9 n1_10 n1_11 n1_12 n1_13 n1_14 o0 xr_23 xt_23 gn_23 gu_23 gb_23 ga_23 lc_23 lk_23 ln_23 lt_23 ll_23 lr_23 tw_23 tn_23 ts_23 tt_23 oo_23 _ (xs ((v23_4 + 1)).toNatClampNeg) hq59 hst) (va_cwS 3 hts gL_law_L_height rfl rfl rfl (by decide +kernel) ⟨Nat.le_of_ble_eq_true rfl, Nat.le_of_ble_eq_true rfl⟩) ⟨PX.blind, fun U hU hW => ⟨rfl, hg U hU hW⟩⟩ rfl rfl hl.1 rfl (lv_room (Nat.le_of_ble_eq_true rfl)) dL_law_476 ⟨(show kc + 1 ≤ 601024 from by omega), (show ks + 6 ≤ 7293034 from by omega)⟩) (fun r59 u H locs hw hP hD hS => ?_)
          obtain ⟨u59_0, rfl⟩ : ∃ z, z = u := ⟨_, rfl⟩
          rw [hw] at he
          try dsimp only at he
          replace hp := hp r59 u59_0 hw
          have hP : va_P D vwCl (W_L cI cJ q0 n1_0 n1_1 n1_2 n1_3 n1_4 n1_5 n1_6 n1_7 n1_8 n1_9 n1_10 n1_11 n1_12 n1_13 n1_14 q8 n2_0 n2_1 n2_2 n2_3 n2_4 n2_5 n2_6 n2_7 n2_8 n2_9 n2_10 o0 xr_23 xt_23 gn_23 gu_23 gb_23 ga_23 lc_23 lk_23 ln_23 lt_23 ll_23 lr_23 tw_23 tn_23 ts_23 tt_23 mr_23 mc_23 me_23 mw_23 mh_23 mn_23 mu_23 ms_23 mt_23 md_23 mz_23 mi_23 mk_23 mo_23 mj_23 ml_23 u59_0) H := hP
          have hD : va_D A (W_L cI cJ q0 n1_0 n1_1 n1_2 n1_3 n1_4 n1_5 n1_6 n1_7 n1_8 n1_9 n1_10 n1_11 n1_12 n1_13 n1_14 q8 n2_0 n2_1 n2_2 n2_3 n2_4 n2_5 n2_6 n2_7 n2_8 n2_9 n2_10 o0 xr_23 xt_23 gn_23 gu_23 gb_23 ga_23 lc_23 lk_23 ln_23 lt_23 ll_23 lr_23 tw_23 tn_23 ts_23 tt_23 mr_23 mc_23 me_23 mw_23 mh_23 mn_23 mu_23 ms_23 mt_23 md_23 mz_23 mi_23 mk_23 mo_23 mj_23 ml_23 u59_0) := hD
          refine lv_istore (lv' := [(5, .int r59), (4, .int v23_4), (3, .ref o0), (2, .ref q8), (1, .ref q0), (0, .ref b0)]) hx hb dL_law_479 hl (by decide) rfl (fun ls hl => ?_)
          refine lv_aload_n hx hb dL_law_481 rfl (lv_at hl 3 rfl) ?_
          refine lv_aload_n hx hb dL_law_482 rfl (lv_at hl 5 rfl) ?_
          refine lv_iload hx hb dL_law_483 (lv_at hl 1 rfl) ?_
          refine lv_iconst (v := 1) hx hb dL_law_485 (by decide) ?_
          refine lv_iadd hx hb dL_law_486 ?_
          have h60 := hp.1
          replace hp := hp.2
          refine va_sld hx hb hX hbl hbA hS h60 dL_law_487 ?_
          have hq61 := hp.1
          replace hp := hp.2
          refine k_calli (S := Int32) (wc := (W_X5 cI q8 n2_0 n2_1 n2_2 n2_3 n2_4 n2_5 n2_6 n2_7 n2_8 n2_9 n2_10 mr_23 mc_23 me_23 mw_23 mh_23 mn_23 mu_23 ms_23 mt_23 md_23 mz_23 mi_23 mk_23 mo_23 mj_23 ml_23)) (wr := (W_O cI cJ q0 n1_0 n1_1 n1_2 n1_3 n1_4 n1_5 n1_6 n1_7 n1_8 n1_9 n1_10 n1_11 n1_12 n1_13 n1_14 o0 xr_23 xt_23 gn_23 gu_23 gb_23 ga_23 lc_23 lk_23 ln_23 lt_23 ll_23 lr_23 tw_23 tn_23 ts_23 tt_23 u59_0)) (w1 := fun u => (W_X5 cI q8 n2_0 n2_1 n2_2 n2_3 n2_4 n2_5 n2_6 n2_7 n2_8 n2_9 n2_10 mr_23 mc_23 me_23 mw_23 u mn_23 mu_23 ms_23 mt_23 md_23 mz_23 mi_23 mk_23 mo_23 mj_23 ml_23)) (fun u => (W_L cI cJ q0 n1_0 n1_1 n1_2 n1_3 n1_4 n1_5 n1_6 n1_7 n1_8 n1_9 n1_10 n1_11 n1_12 n1_13 n1_14 q8 n2_0 n2_1 n2_2 n2_3 n2_4 n2_5 n2_6 n2_7 n2_8 n2_9 n2_10 o0 xr_23 xt_23 gn_23 gu_23 gb_23 ga_23 lc_23 lk_23 ln_23 lt_23 ll_23 lr_23 tw_23 tn_23 ts_23 tt_23 mr_23 mc_23 me_23 mw_23 u mn_23 mu_23 ms_23 mt_23 md_23 mz_23 mi_23 mk_23 mo_23 mj_23 ml_23 u59_0)) hP hK hD hN hS hA [16, 17, 18, 19, 20, 21, 22, 23, 24, 25, 26, 27] [0, 1, 2, 3, 4, 5, 6, 7, 8, 9, 10, 11, 12, 13, 14, 15, 28] rfl rfl (by decide) (by decide) (by decide) [0, 1, 2, 3, 4, 5, 6, 7, 8, 9, 10, 11, 12, 13, 14, 15, 17, 18, 19, 20, 21, 22, 23, 24, 25, 26, 27, 28, 16] (by decide) (fun _ => rfl) (fun hg => va_runV (As := [.int (xs ((v23_4 + 1)).toNatClampNeg)]) (rest := []) ⟨hx, hb, hml, hown, hts⟩ (c_X5_height l D cI q8 n2_0 n2_1 n2_2 n2_3 n2_4 n2_5 n2_6 n2_7 n2_8 n2_9 n2_10 mr_23 mc_23 me_23 mw_23 mh_23 mn_23 mu_23 ms_23 mt_23 md_23 mz_23 mi_23 mk_23 mo_23 mj_23 ml_23 _ (xs ((v23_4 + 1)).toNatClampNeg) hq61) (cwV 1 hts gL_law_X5_height rfl rfl rfl (by decide +kernel) ⟨Nat.le_of_ble_eq_true rfl, Nat.le_of_ble_eq_true rfl⟩) ⟨PW.blind, va_recv hK hP (ci := 5) (q0 := 16) rfl rfl, fun U hU hW => ⟨rfl, hg U hU hW⟩⟩ rfl rfl hl.1 rfl (lv_room (Nat.le_of_ble_eq_true rfl)) dL_law_488 ⟨(show (kc + 1) + 0 ≤ 601024 from by omega), (show (ks + 6) + 0 ≤ 7293034 from by omega)⟩) (fun r61 u H locs hw hP hD hS => ?_)
          obtain ⟨u61_0, rfl⟩ : ∃ z, z = u := ⟨_, rfl⟩
          rw [hw] at he
          try dsimp only at he
          replace hp := hp r61 u61_0 hw
          have hP : va_P D vwCl (W_L cI cJ q0 n1_0 n1_1 n1_2 n1_3 n1_4 n1_5 n1_6 n1_7 n1_8 n1_9 n1_10 n1_11 n1_12 n1_13 n1_14 q8 n2_0 n2_1 n2_2 n2_3 n2_4 n2_5 n2_6 n2_7 n2_8 n2_9 n2_10 o0 xr_23 xt_23 gn_23 gu_23 gb_23 ga_23 lc_23 lk_23 ln_23 lt_23 ll_23 lr_23 tw_23 tn_23 ts_23 tt_23 mr_23 mc_23 me_23 mw_23 u61_0 mn_23 mu_23 ms_23 mt_23 md_23 mz_23 mi_23 mk_23 mo_23 mj_23 ml_23 u59_0) H := hP
          have hD : va_D A (W_L cI cJ q0 n1_0 n1_1 n1_2 n1_3 n1_4 n1_5 n1_6 n1_7 n1_8 n1_9 n1_10 n1_11 n1_12 n1_13 n1_14 q8 n2_0 n2_1 n2_2 n2_3 n2_4 n2_5 n2_6 n2_7 n2_8 n2_9 n2_10 o0 xr_23 xt_23 gn_23 gu_23 gb_23 ga_23 lc_23 lk_23 ln_23 lt_23 ll_23 lr_23 tw_23 tn_23 ts_23 tt_23 mr_23 mc_23 me_23 mw_23 u61_0 mn_23 mu_23 ms_23 mt_23 md_23 mz_23 mi_23 mk_23 mo_23 mj_23 ml_23 u59_0) := hD
          refine lv_istore (lv' := [(6, .int r61), (5, .int r59), (4, .int v23_4), (3, .ref o0), (2, .ref q8), (1, .ref q0), (0, .ref b0)]) hx hb dL_law_491 hl (by decide) rfl (fun ls hl => ?_)
          refine lv_aload_n hx hb dL_law_493 rfl (lv_at hl 4 rfl) ?_
          refine k_calli (S := Unit) (wc := (W_X5 cI q8 n2_0 n2_1 n2_2 n2_3 n2_4 n2_5 n2_6 n2_7 n2_8 n2_9 n2_10 mr_23 mc_23 me_23 mw_23 u61_0 mn_23 mu_23 ms_23 mt_23 md_23 mz_23 mi_23 mk_23 mo_23 mj_23 ml_23)) (wr := (W_O cI cJ q0 n1_0 n1_1 n1_2 n1_3 n1_4 n1_5 n1_6 n1_7 n1_8 n1_9 n1_10 n1_11 n1_12 n1_13 n1_14 o0 xr_23 xt_23 gn_23 gu_23 gb_23 ga_23 lc_23 lk_23 ln_23 lt_23 ll_23 lr_23 tw_23 tn_23 ts_23 tt_23 u59_0)) (w1 := fun u => (W_X5 cI q8 n2_0 n2_1 n2_2 n2_3 n2_4 n2_5 n2_6 n2_7 n2_8 n2_9 n2_10 mr_23 mc_23 me_23 mw_23 u61_0 mn_23 mu_23 ms_23 mt_23 md_23 mz_23 mi_23 mk_23 mo_23 mj_23 ml_23)) (fun u => (W_L cI cJ q0 n1_0 n1_1 n1_2 n1_3 n1_4 n1_5 n1_6 n1_7 n1_8 n1_9 n1_10 n1_11 n1_12 n1_13 n1_14 q8 n2_0 n2_1 n2_2 n2_3 n2_4 n2_5 n2_6 n2_7 n2_8 n2_9 n2_10 o0 xr_23 xt_23 gn_23 gu_23 gb_23 ga_23 lc_23 lk_23 ln_23 lt_23 ll_23 lr_23 tw_23 tn_23 ts_23 tt_23 mr_23 mc_23 me_23 mw_23 u61_0 mn_23 mu_23 ms_23 mt_23 md_23 mz_23 mi_23 mk_23 mo_23 mj_23 ml_23 u59_0)) hP hK hD hN hS hA [16, 17, 18, 19, 20, 21, 22, 23, 24, 25, 26, 27] [0, 1, 2, 3, 4, 5, 6, 7, 8, 9, 10, 11, 12, 13, 14, 15, 28] rfl rfl (by decide) (by decide) (by decide) [0, 1, 2, 3, 4, 5, 6, 7, 8, 9, 10, 11, 12, 13, 14, 15, 17, 18, 19, 20, 21, 22, 23, 24, 25, 26, 27, 28, 16] (by decide) (fun _ => rfl) (fun hg => va_runV (As := []) (rest := []) ⟨hx, hb, hml, hown, hts⟩ (c_X5_thrown l D cI q8 n2_0 n2_1 n2_2 n2_3 n2_4 n2_5 n2_6 n2_7 n2_8 n2_9 n2_10 mr_23 mc_23 me_23 mw_23 u61_0 mn_23 mu_23 ms_23 mt_23 md_23 mz_23 mi_23 mk_23 mo_23 mj_23 ml_23 _ ) (cwV 0 hts gL_law_X5_thrown rfl rfl rfl (by decide +kernel) ⟨Nat.le_of_ble_eq_true rfl, Nat.le_of_ble_eq_true rfl⟩) ⟨PW.blind, va_recv hK hP (ci := 5) (q0 := 16) rfl rfl, fun U hU hW => ⟨rfl, hg U hU hW⟩⟩ rfl rfl hl.1 rfl (lv_room (Nat.le_of_ble_eq_true rfl)) dL_law_494 ⟨(show (kc + 1) + 0 ≤ 601024 from by omega), (show (ks + 6) + 0 ≤ 7293034 from by omega)⟩) (fun r62 u H locs hw hP hD hS => ?_)
          subst hw
          refine lv_iload hx hb dL_law_497 (lv_at hl 1 rfl) ?_
          refine lv_icmp_eq (tgt := 504) hx hb dL_law_499 (by decide) (fun c63 => ?_) (fun c63 => ?_)
          · replace hp := hp.1 c63
            replace he := he.trans (if_pos c63)
            refine lv_iload hx hb dL_law_504 (lv_at hl 1 rfl) ?_
            refine lv_if_ne (tgt := 521) hx hb dL_law_506 (by decide) (fun c64 => ?_) (fun c64 => ?_)
            · replace hp := hp.2 c64
              replace he := he.trans (if_neg c64)
              refine lv_goto (tgt := 1579) hx hb dL_law_521 (by decide) ?_
              refine lv_iinc (v := (v23_4 + 3)) (lv' := [(4, .int (v23_4 + 3)), (6, .int r61), (5, .int r59), (3, .ref o0), (2, .ref q8), (1, .ref q0), (0, .ref b0)]) hx hb dL_law_1579 hl (k := 2) rfl rfl (by decide) rfl (fun ls hl => ?_)
              refine lv_goto (tgt := 23) hx hb dL_law_1582 (by decide) ?_
              refine W.widen (k := kc + 2) (n := ks + 9) (by omega) (by omega) ?_
              exact ih _ _ _ _ _ _ _ _ _ _ _ _ _ _ _ _ _ _ _ _ _ _ _ _ _ _ _ _ _ _ _ _ _ _ (kc + 2) (ks + 9) (by omega) (by omega) hp he _ _ hP hD hS _ (lv_sub hl [0, 3, 4, 5, 6] rfl)
            · replace hp := hp.1 c64
              replace he := he.trans (if_pos c64)
              refine lv_aload_n hx hb dL_law_509 rfl (lv_at hl 3 rfl) ?_
              refine lv_iconst (v := 0) hx hb dL_law_510 (by decide) ?_
              refine va_lald hx hb hK hP 28 1 rfl rfl (by decide) dL_law_511 ?_
              refine lv_iload hx hb dL_law_512 (lv_at hl 0 rfl) ?_
              refine lv_i2l (v := (r61).toInt64) hx hb dL_law_514 rfl ?_
              refine W.lcmp hx hb dL_law_515 ?_
              refine lv_if_eq (tgt := 521) hx hb dL_law_516 (by decide) (fun c66 => ?_) (fun c66 => ?_)
              · replace hp := hp.1 c66
                replace he := he.trans (if_pos c66)
                refine lv_goto (tgt := 1579) hx hb dL_law_521 (by decide) ?_
                refine lv_iinc (v := (v23_4 + 3)) (lv' := [(4, .int (v23_4 + 3)), (6, .int r61), (5, .int r59), (3, .ref o0), (2, .ref q8), (1, .ref q0), (0, .ref b0)]) hx hb dL_law_1579 hl (k := 2) rfl rfl (by decide) rfl (fun ls hl => ?_)
                refine lv_goto (tgt := 23) hx hb dL_law_1582 (by decide) ?_
                refine W.widen (k := kc + 2) (n := ks + 9) (by omega) (by omega) ?_
                exact ih _ _ _ _ _ _ _ _ _ _ _ _ _ _ _ _ _ _ _ _ _ _ _ _ _ _ _ _ _ _ _ _ _ _ (kc + 2) (ks + 9) (by omega) (by omega) hp he _ _ hP hD hS _ (lv_sub hl [0, 3, 4, 5, 6] rfl)
              · replace hp := hp.2 c66
                replace he := he.trans (if_neg c66)
                refine lv_iconst (v := 0) hx hb dL_law_519 (by decide) ?_
                exact absurd he (by decide)
          · replace hp := hp.2 c63
            replace he := he.trans (if_neg c63)
            refine lv_iconst (v := 0) hx hb dL_law_502 (by decide) ?_
            exact absurd he (by decide)
        replace he := he.trans (if_neg s4)
        replace hp := hp.2 s4
        rcases Decidable.em (((xs (v23_4).toNatClampNeg) &&& 31) = 5) with s5 | s5
        · replace he := he.trans (if_pos s5)
          replace hp := hp.1 s5
          refine lv_tableIn (off := 485) (tgt := 524) hx hb dL_law_39 (by rw [s5]; decide) (by rw [s5]; decide) (by rw [s5]; rfl) (by decide) ?_
          refine lv_aload_n hx hb dL_law_524 rfl (lv_at hl 3 rfl) ?_
          refine lv_aload_n hx hb dL_law_525 rfl (lv_at hl 4 rfl) ?_
          refine lv_iload hx hb dL_law_526 (lv_at hl 0 rfl) ?_
          refine lv_iconst (v := 1) hx hb dL_law_528 (by decide) ?_
          refine lv_iadd hx hb dL_law_529 ?_
          have h67 := hp.1
          replace hp := hp.2
          refine va_sld hx hb hX hbl hbA hS h67 dL_law_530 ?_
          refine lv_aload_n hx hb dL_law_531 rfl (lv_at hl 1 rfl) ?_
          refine k_ycalli (S := Int32 × LA) (wc := (W_O cI cJ q0 n1_0 n1_1 n1_2 n1_3 n1_4 n1_5 n1_6 n1_7 n1_8 n1_9 n1_10 n1_11 n1_12 n1_13 n1_14 o0 xr_23 xt_23 gn_23 gu_23 gb_23 ga_23 lc_23 lk_23 ln_23 lt_23 ll_23 lr_23 tw_23 tn_23 ts_23 tt_23 oo_23)) (wr := (W_X5 cI q8 n2_0 n2_1 n2_2 n2_3 n2_4 n2_5 n2_6 n2_7 n2_8 n2_9 n2_10 mr_23 mc_23 me_23 mw_23 mh_23 mn_23 mu_23 ms_23 mt_23 md_23 mz_23 mi_23 mk_23 mo_23 mj_23 ml_23)) (w1 := fun u => (W_O cI cJ q0 n1_0 n1_1 n1_2 n1_3 n1_4 n1_5 n1_6 n1_7 n1_8 n1_9 n1_10 n1_11 n1_12 n1_13 n1_14 o0 xr_23 u.1 gn_23 gu_23 gb_23 ga_23 lc_23 lk_23 ln_23 lt_23 ll_23 lr_23 tw_23 tn_23 ts_23 tt_23 u.2)) (fun u => (W_L cI cJ q0 n1_0 n1_1 n1_2 n1_3 n1_4 n1_5 n1_6 n1_7 n1_8 n1_9 n1_10 n1_11 n1_12 n1_13 n1_14 q8 n2_0 n2_1 n2_2 n2_3 n2_4 n2_5 n2_6 n2_7 n2_8 n2_9 n2_10 o0 xr_23 u.1 gn_23 gu_23 gb_23 ga_23 lc_23 lk_23 ln_23 lt_23 ll_23 lr_23 tw_23 tn_23 ts_23 tt_23 mr_23 mc_23 me_23 mw_23 mh_23 mn_23 mu_23 ms_23 mt_23 md_23 mz_23 mi_23 mk_23 mo_23 mj_23 ml_23 u.2)) hP hK hD hN hXB hS hA [0, 1, 2, 3, 4, 5, 6, 7, 8, 9, 10, 11, 12, 13, 14, 15, 28] [16, 17, 18, 19, 20, 21, 22, 23, 24, 25, 26, 27] rfl rfl (by decide) (by decide) (by decide) [12, 13, 14, 15, 16, 17, 18, 19, 20, 21, 22, 23, 24, 25, 26, 27, 0, 1, 2, 3, 4, 5, 6, 7, 8, 9, 10, 11, 28] (by decide) (fun _ => rfl) (fun hg => va_runS (As := [.ref q0, .int (xs ((v23_4 + 1)).toNatClampNeg), .ref o0]) (rest := []) ⟨hx, hb, hml, hown, hts⟩ (c_L_tick l D cI cJ q0 n1_0 n1_1 n1_2 n1_3 n1_4 n1_5 n1_6 n1_7 n1_8 n1_9 n1_10 n1_11 n1_12 n1_13 n1_14 o0 xr_23 xt_23 gn_23 gu_23 gb_23 ga_23 lc_23 lk_23 ln_23 lt_23 ll_23 lr_23 tw_23 tn_23 ts_23 tt_23 oo_23 _ (xs ((v23_4 + 1)).toNatClampNeg) hst) (va_cwS 3 hts gL_law_L_tick rfl rfl rfl (by decide +kernel) ⟨Nat.le_of_ble_eq_true rfl, Nat.le_of_ble_eq_true rfl⟩) ⟨PX.blind, fun U hU hW => ⟨rfl, hg U hU hW⟩⟩ rfl rfl hl.1 rfl (lv_room (Nat.le_of_ble_eq_true rfl)) dL_law_532 ⟨(show kc + 1 ≤ 601024 from by omega), (show ks + 6 ≤ 7293034 from by omega)⟩) (fun r68 u H locs hw hP hD hS => ?_)
          obtain ⟨u68_0, u68_1⟩ := u
          rw [hw] at he
          try dsimp only at he
          replace hp := hp r68 u68_0 u68_1 hw
          have hP : va_P D vwCl (W_L cI cJ q0 n1_0 n1_1 n1_2 n1_3 n1_4 n1_5 n1_6 n1_7 n1_8 n1_9 n1_10 n1_11 n1_12 n1_13 n1_14 q8 n2_0 n2_1 n2_2 n2_3 n2_4 n2_5 n2_6 n2_7 n2_8 n2_9 n2_10 o0 xr_23 u68_0 gn_23 gu_23 gb_23 ga_23 lc_23 lk_23 ln_23 lt_23 ll_23 lr_23 tw_23 tn_23 ts_23 tt_23 mr_23 mc_23 me_23 mw_23 mh_23 mn_23 mu_23 ms_23 mt_23 md_23 mz_23 mi_23 mk_23 mo_23 mj_23 ml_23 u68_1) H := hP
          have hD : va_D A (W_L cI cJ q0 n1_0 n1_1 n1_2 n1_3 n1_4 n1_5 n1_6 n1_7 n1_8 n1_9 n1_10 n1_11 n1_12 n1_13 n1_14 q8 n2_0 n2_1 n2_2 n2_3 n2_4 n2_5 n2_6 n2_7 n2_8 n2_9 n2_10 o0 xr_23 u68_0 gn_23 gu_23 gb_23 ga_23 lc_23 lk_23 ln_23 lt_23 ll_23 lr_23 tw_23 tn_23 ts_23 tt_23 mr_23 mc_23 me_23 mw_23 mh_23 mn_23 mu_23 ms_23 mt_23 md_23 mz_23 mi_23 mk_23 mo_23 mj_23 ml_23 u68_1) := hD
          refine lv_istore (lv' := [(5, .int r68), (4, .int v23_4), (3, .ref o0), (2, .ref q8), (1, .ref q0), (0, .ref b0)]) hx hb dL_law_535 hl (by decide) rfl (fun ls hl => ?_)
          refine lv_aload_n hx hb dL_law_537 rfl (lv_at hl 3 rfl) ?_
          refine lv_aload_n hx hb dL_law_538 rfl (lv_at hl 5 rfl) ?_
          refine lv_iload hx hb dL_law_539 (lv_at hl 1 rfl) ?_
          refine lv_iconst (v := 1) hx hb dL_law_541 (by decide) ?_
          refine lv_iadd hx hb dL_law_542 ?_
          have h69 := hp.1
          replace hp := hp.2
          refine va_sld hx hb hX hbl hbA hS h69 dL_law_543 ?_
          refine k_calli (S := Int32 × Int32) (wc := (W_X5 cI q8 n2_0 n2_1 n2_2 n2_3 n2_4 n2_5 n2_6 n2_7 n2_8 n2_9 n2_10 mr_23 mc_23 me_23 mw_23 mh_23 mn_23 mu_23 ms_23 mt_23 md_23 mz_23 mi_23 mk_23 mo_23 mj_23 ml_23)) (wr := (W_O cI cJ q0 n1_0 n1_1 n1_2 n1_3 n1_4 n1_5 n1_6 n1_7 n1_8 n1_9 n1_10 n1_11 n1_12 n1_13 n1_14 o0 xr_23 u68_0 gn_23 gu_23 gb_23 ga_23 lc_23 lk_23 ln_23 lt_23 ll_23 lr_23 tw_23 tn_23 ts_23 tt_23 u68_1)) (w1 := fun u => (W_X5 cI q8 n2_0 n2_1 n2_2 n2_3 n2_4 n2_5 n2_6 n2_7 n2_8 n2_9 n2_10 mr_23 mc_23 me_23 u.1 u.2 mn_23 mu_23 ms_23 mt_23 md_23 mz_23 mi_23 mk_23 mo_23 mj_23 ml_23)) (fun u => (W_L cI cJ q0 n1_0 n1_1 n1_2 n1_3 n1_4 n1_5 n1_6 n1_7 n1_8 n1_9 n1_10 n1_11 n1_12 n1_13 n1_14 q8 n2_0 n2_1 n2_2 n2_3 n2_4 n2_5 n2_6 n2_7 n2_8 n2_9 n2_10 o0 xr_23 u68_0 gn_23 gu_23 gb_23 ga_23 lc_23 lk_23 ln_23 lt_23 ll_23 lr_23 tw_23 tn_23 ts_23 tt_23 mr_23 mc_23 me_23 u.1 u.2 mn_23 mu_23 ms_23 mt_23 md_23 mz_23 mi_23 mk_23 mo_23 mj_23 ml_23 u68_1)) hP hK hD hN hS hA [16, 17, 18, 19, 20, 21, 22, 23, 24, 25, 26, 27] [0, 1, 2, 3, 4, 5, 6, 7, 8, 9, 10, 11, 12, 13, 14, 15, 28] rfl rfl (by decide) (by decide) (by decide) [0, 1, 2, 3, 4, 5, 6, 7, 8, 9, 10, 11, 12, 13, 14, 15, 17, 18, 19, 20, 21, 22, 23, 24, 25, 26, 27, 28, 16] (by decide) (fun _ => rfl) (fun hg => va_runV (As := [.int (xs ((v23_4 + 1)).toNatClampNeg)]) (rest := []) ⟨hx, hb, hml, hown, hts⟩ (c_X5_tick l D cI q8 n2_0 n2_1 n2_2 n2_3 n2_4 n2_5 n2_6 n2_7 n2_8 n2_9 n2_10 mr_23 mc_23 me_23 mw_23 mh_23 mn_23 mu_23 ms_23 mt_23 md_23 mz_23 mi_23 mk_23 mo_23 mj_23 ml_23 _ (xs ((v23_4 + 1)).toNatClampNeg)) (cwV 1 hts gL_law_X5_tick rfl rfl rfl (by decide +kernel) ⟨Nat.le_of_ble_eq_true rfl, Nat.le_of_ble_eq_true rfl⟩) ⟨PW.blind, va_recv hK hP (ci := 5) (q0 := 16) rfl rfl, fun U hU hW => ⟨rfl, hg U hU hW⟩⟩ rfl rfl hl.1 rfl (lv_room (Nat.le_of_ble_eq_true rfl)) dL_law_544 ⟨(show (kc + 1) + 0 ≤ 601024 from by omega), (show (ks + 6) + 0 ≤ 7293034 from by omega)⟩) (fun r70 u H locs hw hP hD hS => ?_)
          obtain ⟨u70_0, u70_1⟩ := u
          rw [hw] at he
          try dsimp only at he
          replace hp := hp r70 u70_0 u70_1 hw
          have hP : va_P D vwCl (W_L cI cJ q0 n1_0 n1_1 n1_2 n1_3 n1_4 n1_5 n1_6 n1_7 n1_8 n1_9 n1_10 n1_11 n1_12 n1_13 n1_14 q8 n2_0 n2_1 n2_2 n2_3 n2_4 n2_5 n2_6 n2_7 n2_8 n2_9 n2_10 o0 xr_23 u68_0 gn_23 gu_23 gb_23 ga_23 lc_23 lk_23 ln_23 lt_23 ll_23 lr_23 tw_23 tn_23 ts_23 tt_23 mr_23 mc_23 me_23 u70_0 u70_1 mn_23 mu_23 ms_23 mt_23 md_23 mz_23 mi_23 mk_23 mo_23 mj_23 ml_23 u68_1) H := hP
          have hD : va_D A (W_L cI cJ q0 n1_0 n1_1 n1_2 n1_3 n1_4 n1_5 n1_6 n1_7 n1_8 n1_9 n1_10 n1_11 n1_12 n1_13 n1_14 q8 n2_0 n2_1 n2_2 n2_3 n2_4 n2_5 n2_6 n2_7 n2_8 n2_9 n2_10 o0 xr_23 u68_0 gn_23 gu_23 gb_23 ga_23 lc_23 lk_23 ln_23 lt_23 ll_23 lr_23 tw_23 tn_23 ts_23 tt_23 mr_23 mc_23 me_23 u70_0 u70_1 mn_23 mu_23 ms_23 mt_23 md_23 mz_23 mi_23 mk_23 mo_23 mj_23 ml_23 u68_1) := hD
          refine lv_istore (lv' := [(6, .int r70), (5, .int r68), (4, .int v23_4), (3, .ref o0), (2, .ref q8), (1, .ref q0), (0, .ref b0)]) hx hb dL_law_547 hl (by decide) rfl (fun ls hl => ?_)
          refine lv_aload_n hx hb dL_law_549 rfl (lv_at hl 4 rfl) ?_
          refine k_calli (S := Unit) (wc := (W_X5 cI q8 n2_0 n2_1 n2_2 n2_3 n2_4 n2_5 n2_6 n2_7 n2_8 n2_9 n2_10 mr_23 mc_23 me_23 u70_0 u70_1 mn_23 mu_23 ms_23 mt_23 md_23 mz_23 mi_23 mk_23 mo_23 mj_23 ml_23)) (wr := (W_O cI cJ q0 n1_0 n1_1 n1_2 n1_3 n1_4 n1_5 n1_6 n1_7 n1_8 n1_9 n1_10 n1_11 n1_12 n1_13 n1_14 o0 xr_23 u68_0 gn_23 gu_23 gb_23 ga_23 lc_23 lk_23 ln_23 lt_23 ll_23 lr_23 tw_23 tn_23 ts_23 tt_23 u68_1)) (w1 := fun u => (W_X5 cI q8 n2_0 n2_1 n2_2 n2_3 n2_4 n2_5 n2_6 n2_7 n2_8 n2_9 n2_10 mr_23 mc_23 me_23 u70_0 u70_1 mn_23 mu_23 ms_23 mt_23 md_23 mz_23 mi_23 mk_23 mo_23 mj_23 ml_23)) (fun u => (W_L cI cJ q0 n1_0 n1_1 n1_2 n1_3 n1_4 n1_5 n1_6 n1_7 n1_8 n1_9 n1_10 n1_11 n1_12 n1_13 n1_14 q8 n2_0 n2_1 n2_2 n2_3 n2_4 n2_5 n2_6 n2_7 n2_8 n2_9 n2_10 o0 xr_23 u68_0 gn_23 gu_23 gb_23 ga_23 lc_23 lk_23 ln_23 lt_23 ll_23 lr_23 tw_23 tn_23 ts_23 tt_23 mr_23 mc_23 me_23 u70_0 u70_1 mn_23 mu_23 ms_23 mt_23 md_23 mz_23 mi_23 mk_23 mo_23 mj_23 ml_23 u68_1)) hP hK hD hN hS hA [16, 17, 18, 19, 20, 21, 22, 23, 24, 25, 26, 27] [0, 1, 2, 3, 4, 5, 6, 7, 8, 9, 10, 11, 12, 13, 14, 15, 28] rfl rfl (by decide) (by decide) (by decide) [0, 1, 2, 3, 4, 5, 6, 7, 8, 9, 10, 11, 12, 13, 14, 15, 17, 18, 19, 20, 21, 22, 23, 24, 25, 26, 27, 28, 16] (by decide) (fun _ => rfl) (fun hg => va_runV (As := []) (rest := []) ⟨hx, hb, hml, hown, hts⟩ (c_X5_thrown l D cI q8 n2_0 n2_1 n2_2 n2_3 n2_4 n2_5 n2_6 n2_7 n2_8 n2_9 n2_10 mr_23 mc_23 me_23 u70_0 u70_1 mn_23 mu_23 ms_23 mt_23 md_23 mz_23 mi_23 mk_23 mo_23 mj_23 ml_23 _ ) (cwV 0 hts gL_law_X5_thrown rfl rfl rfl (by decide +kernel) ⟨Nat.le_of_ble_eq_true rfl, Nat.le_of_ble_eq_true rfl⟩) ⟨PW.blind, va_recv hK hP (ci := 5) (q0 := 16) rfl rfl, fun U hU hW => ⟨rfl, hg U hU hW⟩⟩ rfl rfl hl.1 rfl (lv_room (Nat.le_of_ble_eq_true rfl)) dL_law_550 ⟨(show (kc + 1) + 0 ≤ 601024 from by omega), (show (ks + 6) + 0 ≤ 7293034 from by omega)⟩) (fun r71 u H locs hw hP hD hS => ?_)
          subst hw
          refine lv_iload hx hb dL_law_553 (lv_at hl 1 rfl) ?_
          refine lv_icmp_eq (tgt := 560) hx hb dL_law_555 (by decide) (fun c72 => ?_) (fun c72 => ?_)
          · replace hp := hp.1 c72
            replace he := he.trans (if_pos c72)
            refine lv_iload hx hb dL_law_560 (lv_at hl 1 rfl) ?_
            refine lv_if_ne (tgt := 577) hx hb dL_law_562 (by decide) (fun c73 => ?_) (fun c73 => ?_)
            · replace hp := hp.2 c73
              replace he := he.trans (if_neg c73)
              refine lv_goto (tgt := 1579) hx hb dL_law_577 (by decide) ?_
              refine lv_iinc (v := (v23_4 + 3)) (lv' := [(4, .int (v23_4 + 3)), (6, .int r70), (5, .int r68), (3, .ref o0), (2, .ref q8), (1, .ref q0), (0, .ref b0)]) hx hb dL_law_1579 hl (k := 2) rfl rfl (by decide) rfl (fun ls hl => ?_)
              refine lv_goto (tgt := 23) hx hb dL_law_1582 (by decide) ?_
              refine W.widen (k := kc + 2) (n := ks + 9) (by omega) (by omega) ?_
              exact ih _ _ _ _ _ _ _ _ _ _ _ _ _ _ _ _ _ _ _ _ _ _ _ _ _ _ _ _ _ _ _ _ _ _ (kc + 2) (ks + 9) (by omega) (by omega) hp he _ _ hP hD hS _ (lv_sub hl [0, 3, 4, 5, 6] rfl)
            · replace hp := hp.1 c73
              replace he := he.trans (if_pos c73)
              refine lv_aload_n hx hb dL_law_565 rfl (lv_at hl 3 rfl) ?_
              refine lv_iconst (v := 0) hx hb dL_law_566 (by decide) ?_
              refine va_lald hx hb hK hP 28 1 rfl rfl (by decide) dL_law_567 ?_
              refine lv_iload hx hb dL_law_568 (lv_at hl 0 rfl) ?_
              refine lv_i2l (v := (r70).toInt64) hx hb dL_law_570 rfl ?_
              refine W.lcmp hx hb dL_law_571 ?_
              refine lv_if_eq (tgt := 577) hx hb dL_law_572 (by decide) (fun c75 => ?_) (fun c75 => ?_)
              · replace hp := hp.1 c75
                replace he := he.trans (if_pos c75)
                refine lv_goto (tgt := 1579) hx hb dL_law_577 (by decide) ?_
                refine lv_iinc (v := (v23_4 + 3)) (lv' := [(4, .int (v23_4 + 3)), (6, .int r70), (5, .int r68), (3, .ref o0), (2, .ref q8), (1, .ref q0), (0, .ref b0)]) hx hb dL_law_1579 hl (k := 2) rfl rfl (by decide) rfl (fun ls hl => ?_)
                refine lv_goto (tgt := 23) hx hb dL_law_1582 (by decide) ?_
                refine W.widen (k := kc + 2) (n := ks + 9) (by omega) (by omega) ?_
                exact ih _ _ _ _ _ _ _ _ _ _ _ _ _ _ _ _ _ _ _ _ _ _ _ _ _ _ _ _ _ _ _ _ _ _ (kc + 2) (ks + 9) (by omega) (by omega) hp he _ _ hP hD hS _ (lv_sub hl [0, 3, 4, 5, 6] rfl)
              · replace hp := hp.2 c75
                replace he := he.trans (if_neg c75)
                refine lv_iconst (v := 0) hx hb dL_law_575 (by decide) ?_
                exact absurd he (by decide)
          · replace hp := hp.2 c72
            replace he := he.trans (if_neg c72)
            refine lv_iconst (v := 0) hx hb dL_law_558 (by decide) ?_
            exact absurd he (by decide)
        replace he := he.trans (if_neg s5)
        replace hp := hp.2 s5
        rcases Decidable.em (((xs (v23_4).toNatClampNeg) &&& 31) = 6) with s6 | s6
        · replace he := he.trans (if_pos s6)
          replace hp := hp.1 s6
          refine lv_tableIn (off := 541) (tgt := 580) hx hb dL_law_39 (by rw [s6]; decide) (by rw [s6]; decide) (by rw [s6]; rfl) (by decide) ?_
          refine lv_aload_n hx hb dL_law_580 rfl (lv_at hl 3 rfl) ?_
          refine k_calli (S := Unit) (wc := (W_X4 cI q0 n1_0 n1_1 n1_2 n1_3 n1_4 n1_5 n1_6 n1_7 n1_8 n1_9 n1_10 n1_11 n1_12 n1_13 n1_14 xr_23 xt_23 gn_23 gu_23 gb_23 ga_23 lc_23 lk_23 ln_23 lt_23 ll_23 lr_23 tw_23 tn_23 ts_23 tt_23)) (wr := ((W_X5 cI q8 n2_0 n2_1 n2_2 n2_3 n2_4 n2_5 n2_6 n2_7 n2_8 n2_9 n2_10 mr_23 mc_23 me_23 mw_23 mh_23 mn_23 mu_23 ms_23 mt_23 md_23 mz_23 mi_23 mk_23 mo_23 mj_23 ml_23) ++ [(o0, .inl (cJ, 1, .inr (.inl oo_23)))])) (w1 := fun u => (W_X4 cI q0 n1_0 n1_1 n1_2 n1_3 n1_4 n1_5 n1_6 n1_7 n1_8 n1_9 n1_10 n1_11 n1_12 n1_13 n1_14 xr_23 xt_23 gn_23 gu_23 gb_23 ga_23 lc_23 lk_23 ln_23 lt_23 ll_23 lr_23 tw_23 tn_23 ts_23 tt_23)) (fun u => (W_L cI cJ q0 n1_0 n1_1 n1_2 n1_3 n1_4 n1_5 n1_6 n1_7 n1_8 n1_9 n1_10 n1_11 n1_12 n1_13 n1_14 q8 n2_0 n2_1 n2_2 n2_3 n2_4 n2_5 n2_6 n2_7 n2_8 n2_9 n2_10 o0 xr_23 xt_23 gn_23 gu_23 gb_23 ga_23 lc_23 lk_23 ln_23 lt_23 ll_23 lr_23 tw_23 tn_23 ts_23 tt_23 mr_23 mc_23 me_23 mw_23 mh_23 mn_23 mu_23 ms_23 mt_23 md_23 mz_23 mi_23 mk_23 mo_23 mj_23 ml_23 oo_23)) hP hK hD hN hS hA [0, 1, 2, 3, 4, 5, 6, 7, 8, 9, 10, 11, 12, 13, 14, 15] [16, 17, 18, 19, 20, 21, 22, 23, 24, 25, 26, 27, 28] rfl rfl (by decide) (by decide) (by decide) [13, 14, 15, 16, 17, 18, 19, 20, 21, 22, 23, 24, 25, 26, 27, 28, 0, 1, 2, 3, 4, 5, 6, 7, 8, 9, 10, 11, 12] (by decide) (fun _ => rfl) (fun hg => va_runV (As := []) (rest := []) ⟨hx, hb, hml, hown, hts⟩ (c_X4_now l D cI q0 n1_0 n1_1 n1_2 n1_3 n1_4 n1_5 n1_6 n1_7 n1_8 n1_9 n1_10 n1_11 n1_12 n1_13 n1_14 xr_23 xt_23 gn_23 gu_23 gb_23 ga_23 lc_23 lk_23 ln_23 lt_23 ll_23 lr_23 tw_23 tn_23 ts_23 tt_23 _ ) (cwV 0 hts gL_law_X4_now rfl rfl rfl (by decide +kernel) ⟨Nat.le_of_ble_eq_true rfl, Nat.le_of_ble_eq_true rfl⟩) ⟨PW.blind, va_recv hK hP (ci := 4) (q0 := 0) rfl rfl, fun U hU hW => ⟨rfl, hg U hU hW⟩⟩ rfl rfl hl.1 rfl (lv_room (Nat.le_of_ble_eq_true rfl)) dL_law_581 ⟨(show kc + 0 ≤ 601024 from by omega), (show ks + 0 ≤ 7293034 from by omega)⟩) (fun r76 u H locs hw hP hD hS => ?_)
          subst hw
          refine lv_aload_n hx hb dL_law_584 rfl (lv_at hl 2 rfl) ?_
          refine k_calli (S := Int32) (wc := (W_X5 cI q8 n2_0 n2_1 n2_2 n2_3 n2_4 n2_5 n2_6 n2_7 n2_8 n2_9 n2_10 mr_23 mc_23 me_23 mw_23 mh_23 mn_23 mu_23 ms_23 mt_23 md_23 mz_23 mi_23 mk_23 mo_23 mj_23 ml_23)) (wr := (W_O cI cJ q0 n1_0 n1_1 n1_2 n1_3 n1_4 n1_5 n1_6 n1_7 n1_8 n1_9 n1_10 n1_11 n1_12 n1_13 n1_14 o0 xr_23 xt_23 gn_23 gu_23 gb_23 ga_23 lc_23 lk_23 ln_23 lt_23 ll_23 lr_23 tw_23 tn_23 ts_23 tt_23 oo_23)) (w1 := fun u => (W_X5 cI q8 n2_0 n2_1 n2_2 n2_3 n2_4 n2_5 n2_6 n2_7 n2_8 n2_9 n2_10 mr_23 mc_23 me_23 mw_23 u mn_23 mu_23 ms_23 mt_23 md_23 mz_23 mi_23 mk_23 mo_23 mj_23 ml_23)) (fun u => (W_L cI cJ q0 n1_0 n1_1 n1_2 n1_3 n1_4 n1_5 n1_6 n1_7 n1_8 n1_9 n1_10 n1_11 n1_12 n1_13 n1_14 q8 n2_0 n2_1 n2_2 n2_3 n2_4 n2_5 n2_6 n2_7 n2_8 n2_9 n2_10 o0 xr_23 xt_23 gn_23 gu_23 gb_23 ga_23 lc_23 lk_23 ln_23 lt_23 ll_23 lr_23 tw_23 tn_23 ts_23 tt_23 mr_23 mc_23 me_23 mw_23 u mn_23 mu_23 ms_23 mt_23 md_23 mz_23 mi_23 mk_23 mo_23 mj_23 ml_23 oo_23)) hP hK hD hN hS hA [16, 17, 18, 19, 20, 21, 22, 23, 24, 25, 26, 27] [0, 1, 2, 3, 4, 5, 6, 7, 8, 9, 10, 11, 12, 13, 14, 15, 28] rfl rfl (by decide) (by decide) (by decide) [0, 1, 2, 3, 4, 5, 6, 7, 8, 9, 10, 11, 12, 13, 14, 15, 17, 18, 19, 20, 21, 22, 23, 24, 25, 26, 27, 28, 16] (by decide) (fun _ => rfl) (fun hg => va_runV (As := []) (rest := [.int (f_X4_now xt_23)]) ⟨hx, hb, hml, hown, hts⟩ (c_X5_now l D cI q8 n2_0 n2_1 n2_2 n2_3 n2_4 n2_5 n2_6 n2_7 n2_8 n2_9 n2_10 mr_23 mc_23 me_23 mw_23 mh_23 mn_23 mu_23 ms_23 mt_23 md_23 mz_23 mi_23 mk_23 mo_23 mj_23 ml_23 _ ) (cwV 0 hts gL_law_X5_now rfl rfl rfl (by decide +kernel) ⟨Nat.le_of_ble_eq_true rfl, Nat.le_of_ble_eq_true rfl⟩) ⟨PW.blind, va_recv hK hP (ci := 5) (q0 := 16) rfl rfl, fun U hU hW => ⟨rfl, hg U hU hW⟩⟩ rfl rfl hl.1 rfl (lv_room (Nat.le_of_ble_eq_true rfl)) dL_law_585 ⟨(show kc + 0 ≤ 601024 from by omega), (show ks + 0 ≤ 7293034 from by omega)⟩) (fun r77 u H locs hw hP hD hS => ?_)
          obtain ⟨u77_0, rfl⟩ : ∃ z, z = u := ⟨_, rfl⟩
          rw [hw] at he
          try dsimp only at he
          replace hp := hp r77 u77_0 hw
          have hP : va_P D vwCl (W_L cI cJ q0 n1_0 n1_1 n1_2 n1_3 n1_4 n1_5 n1_6 n1_7 n1_8 n1_9 n1_10 n1_11 n1_12 n1_13 n1_14 q8 n2_0 n2_1 n2_2 n2_3 n2_4 n2_5 n2_6 n2_7 n2_8 n2_9 n2_10 o0 xr_23 xt_23 gn_23 gu_23 gb_23 ga_23 lc_23 lk_23 ln_23 lt_23 ll_23 lr_23 tw_23 tn_23 ts_23 tt_23 mr_23 mc_23 me_23 mw_23 u77_0 mn_23 mu_23 ms_23 mt_23 md_23 mz_23 mi_23 mk_23 mo_23 mj_23 ml_23 oo_23) H := hP
          have hD : va_D A (W_L cI cJ q0 n1_0 n1_1 n1_2 n1_3 n1_4 n1_5 n1_6 n1_7 n1_8 n1_9 n1_10 n1_11 n1_12 n1_13 n1_14 q8 n2_0 n2_1 n2_2 n2_3 n2_4 n2_5 n2_6 n2_7 n2_8 n2_9 n2_10 o0 xr_23 xt_23 gn_23 gu_23 gb_23 ga_23 lc_23 lk_23 ln_23 lt_23 ll_23 lr_23 tw_23 tn_23 ts_23 tt_23 mr_23 mc_23 me_23 mw_23 u77_0 mn_23 mu_23 ms_23 mt_23 md_23 mz_23 mi_23 mk_23 mo_23 mj_23 ml_23 oo_23) := hD
          refine lv_icmp_eq (tgt := 1579) hx hb dL_law_588 (by decide) (fun c78 => ?_) (fun c78 => ?_)
          · replace hp := hp.1 c78
            replace he := he.trans (if_pos c78)
            refine lv_iinc (v := (v23_4 + 3)) (lv' := [(4, .int (v23_4 + 3)), (3, .ref o0), (2, .ref q8), (1, .ref q0), (0, .ref b0)]) hx hb dL_law_1579 hl (k := 0) rfl rfl (by decide) rfl (fun ls hl => ?_)
            refine lv_goto (tgt := 23) hx hb dL_law_1582 (by decide) ?_
            refine W.widen (k := kc + 2) (n := ks + 9) (by omega) (by omega) ?_
            exact ih _ _ _ _ _ _ _ _ _ _ _ _ _ _ _ _ _ _ _ _ _ _ _ _ _ _ _ _ _ _ _ _ _ _ (kc + 2) (ks + 9) (by omega) (by omega) hp he _ _ hP hD hS _ (lv_sub hl [0, 1, 2, 3, 4] rfl)
          · replace hp := hp.2 c78
            replace he := he.trans (if_neg c78)
            refine lv_iconst (v := 0) hx hb dL_law_591 (by decide) ?_
            exact absurd he (by decide)
        replace he := he.trans (if_neg s6)
        replace hp := hp.2 s6
        rcases Decidable.em (((xs (v23_4).toNatClampNeg) &&& 31) = 7) with s7 | s7
        · replace he := he.trans (if_pos s7)
          replace hp := hp.1 s7
          refine lv_tableIn (off := 554) (tgt := 593) hx hb dL_law_39 (by rw [s7]; decide) (by rw [s7]; decide) (by rw [s7]; rfl) (by decide) ?_
          refine lv_aload_n hx hb dL_law_593 rfl (lv_at hl 3 rfl) ?_
          refine lv_aload_n hx hb dL_law_594 rfl (lv_at hl 4 rfl) ?_
          refine lv_iload hx hb dL_law_595 (lv_at hl 0 rfl) ?_
          refine lv_iconst (v := 1) hx hb dL_law_597 (by decide) ?_
          refine lv_iadd hx hb dL_law_598 ?_
          have h79 := hp.1
          replace hp := hp.2
          refine va_sld hx hb hX hbl hbA hS h79 dL_law_599 ?_
          refine lv_aload_n hx hb dL_law_600 rfl (lv_at hl 1 rfl) ?_
          have hq80 := hp.1
          replace hp := hp.2
          refine k_ycalli (S := Int32 × Int32 × AA × AA × AA × AA × AA × Int32 × AA × AA × AA × LA) (wc := (W_O cI cJ q0 n1_0 n1_1 n1_2 n1_3 n1_4 n1_5 n1_6 n1_7 n1_8 n1_9 n1_10 n1_11 n1_12 n1_13 n1_14 o0 xr_23 xt_23 gn_23 gu_23 gb_23 ga_23 lc_23 lk_23 ln_23 lt_23 ll_23 lr_23 tw_23 tn_23 ts_23 tt_23 oo_23)) (wr := (W_X5 cI q8 n2_0 n2_1 n2_2 n2_3 n2_4 n2_5 n2_6 n2_7 n2_8 n2_9 n2_10 mr_23 mc_23 me_23 mw_23 mh_23 mn_23 mu_23 ms_23 mt_23 md_23 mz_23 mi_23 mk_23 mo_23 mj_23 ml_23)) (w1 := fun u => (W_O cI cJ q0 n1_0 n1_1 n1_2 n1_3 n1_4 n1_5 n1_6 n1_7 n1_8 n1_9 n1_10 n1_11 n1_12 n1_13 n1_14 o0 u.1 xt_23 gn_23 gu_23 gb_23 ga_23 u.2.1 u.2.2.1 u.2.2.2.1 u.2.2.2.2.1 u.2.2.2.2.2.1 u.2.2.2.2.2.2.1 u.2.2.2.2.2.2.2.1 u.2.2.2.2.2.2.2.2.1 u.2.2.2.2.2.2.2.2.2.1 u.2.2.2.2.2.2.2.2.2.2.1 u.2.2.2.2.2.2.2.2.2.2.2)) (fun u => (W_L cI cJ q0 n1_0 n1_1 n1_2 n1_3 n1_4 n1_5 n1_6 n1_7 n1_8 n1_9 n1_10 n1_11 n1_12 n1_13 n1_14 q8 n2_0 n2_1 n2_2 n2_3 n2_4 n2_5 n2_6 n2_7 n2_8 n2_9 n2_10 o0 u.1 xt_23 gn_23 gu_23 gb_23 ga_23 u.2.1 u.2.2.1 u.2.2.2.1 u.2.2.2.2.1 u.2.2.2.2.2.1 u.2.2.2.2.2.2.1 u.2.2.2.2.2.2.2.1 u.2.2.2.2.2.2.2.2.1 u.2.2.2.2.2.2.2.2.2.1 u.2.2.2.2.2.2.2.2.2.2.1 mr_23 mc_23 me_23 mw_23 mh_23 mn_23 mu_23 ms_23 mt_23 md_23 mz_23 mi_23 mk_23 mo_23 mj_23 ml_23 u.2.2.2.2.2.2.2.2.2.2.2)) hP hK hD hN hXB hS hA [0, 1, 2, 3, 4, 5, 6, 7, 8, 9, 10, 11, 12, 13, 14, 15, 28] [16, 17, 18, 19, 20, 21, 22, 23, 24, 25, 26, 27] rfl rfl (by decide) (by decide) (by decide) [12, 13, 14, 15, 16, 17, 18, 19, 20, 21, 22, 23, 24, 25, 26, 27, 0, 1, 2, 3, 4, 5, 6, 7, 8, 9, 10, 11, 28] (by decide) (fun _ => rfl) (fun hg => va_runS (As := [.ref q0, .int (xs ((v23_4 + 1)).toNatClampNeg), .ref o0]) (rest := []) ⟨hx, hb, hml, hown, hts⟩ (c_L_raise l D cI cJ q0 n1_0 n1_1 n1_2 n1_3 n1_4 n1_5 n1_6 n1_7 n1_8 n1_9 n1_10 n1_11 n1_12 n1_13 n1_14 o0 xr_23 xt_23 gn_23 gu_23 gb_23 ga_23 lc_23 lk_23 ln_23 lt_23 ll_23 lr_23 tw_23 tn_23 ts_23 tt_23 oo_23 _ (xs ((v23_4 + 1)).toNatClampNeg) hq80 hst) (va_cwS 3 hts gL_law_L_raise rfl rfl rfl (by decide +kernel) ⟨Nat.le_of_ble_eq_true rfl, Nat.le_of_ble_eq_true rfl⟩) ⟨PX.blind, fun U hU hW => ⟨rfl, hg U hU hW⟩⟩ rfl rfl hl.1 rfl (lv_room (Nat.le_of_ble_eq_true rfl)) dL_law_601 ⟨(show kc + 2 ≤ 601024 from by omega), (show ks + 12 ≤ 7293034 from by omega)⟩) (fun r80 u H locs hw hP hD hS => ?_)
          obtain ⟨u80_0, u80_1, u80_2, u80_3, u80_4, u80_5, u80_6, u80_7, u80_8, u80_9, u80_10, u80_11⟩ := u
          rw [hw] at he
          try dsimp only at he
          replace hp := hp r80 u80_0 u80_1 u80_2 u80_3 u80_4 u80_5 u80_6 u80_7 u80_8 u80_9 u80_10 u80_11 hw
          have hP : va_P D vwCl (W_L cI cJ q0 n1_0 n1_1 n1_2 n1_3 n1_4 n1_5 n1_6 n1_7 n1_8 n1_9 n1_10 n1_11 n1_12 n1_13 n1_14 q8 n2_0 n2_1 n2_2 n2_3 n2_4 n2_5 n2_6 n2_7 n2_8 n2_9 n2_10 o0 u80_0 xt_23 gn_23 gu_23 gb_23 ga_23 u80_1 u80_2 u80_3 u80_4 u80_5 u80_6 u80_7 u80_8 u80_9 u80_10 mr_23 mc_23 me_23 mw_23 mh_23 mn_23 mu_23 ms_23 mt_23 md_23 mz_23 mi_23 mk_23 mo_23 mj_23 ml_23 u80_11) H := hP
          have hD : va_D A (W_L cI cJ q0 n1_0 n1_1 n1_2 n1_3 n1_4 n1_5 n1_6 n1_7 n1_8 n1_9 n1_10 n1_11 n1_12 n1_13 n1_14 q8 n2_0 n2_1 n2_2 n2_3 n2_4 n2_5 n2_6 n2_7 n2_8 n2_9 n2_10 o0 u80_0 xt_23 gn_23 gu_23 gb_23 ga_23 u80_1 u80_2 u80_3 u80_4 u80_5 u80_6 u80_7 u80_8 u80_9 u80_10 mr_23 mc_23 me_23 mw_23 mh_23 mn_23 mu_23 ms_23 mt_23 md_23 mz_23 mi_23 mk_23 mo_23 mj_23 ml_23 u80_11) := hD
          refine lv_istore (lv' := [(5, .int r80), (4, .int v23_4), (3, .ref o0), (2, .ref q8), (1, .ref q0), (0, .ref b0)]) hx hb dL_law_604 hl (by decide) rfl (fun ls hl => ?_)
          refine lv_aload_n hx hb dL_law_606 rfl (lv_at hl 3 rfl) ?_
          refine lv_aload_n hx hb dL_law_607 rfl (lv_at hl 5 rfl) ?_
          refine lv_iload hx hb dL_law_608 (lv_at hl 1 rfl) ?_
          refine lv_iconst (v := 1) hx hb dL_law_610 (by decide) ?_
          refine lv_iadd hx hb dL_law_611 ?_
          have h81 := hp.1
          replace hp := hp.2
          refine va_sld hx hb hX hbl hbA hS h81 dL_law_612 ?_
          have hq82 := hp.1
          replace hp := hp.2
          refine k_calli (S := Int32 × Int32 × Int32 × Int32 × AA × AA × AA × AA × AA × AA × AA × AA × AA) (wc := (W_X5 cI q8 n2_0 n2_1 n2_2 n2_3 n2_4 n2_5 n2_6 n2_7 n2_8 n2_9 n2_10 mr_23 mc_23 me_23 mw_23 mh_23 mn_23 mu_23 ms_23 mt_23 md_23 mz_23 mi_23 mk_23 mo_23 mj_23 ml_23)) (wr := (W_O cI cJ q0 n1_0 n1_1 n1_2 n1_3 n1_4 n1_5 n1_6 n1_7 n1_8 n1_9 n1_10 n1_11 n1_12 n1_13 n1_14 o0 u80_0 xt_23 gn_23 gu_23 gb_23 ga_23 u80_1 u80_2 u80_3 u80_4 u80_5 u80_6 u80_7 u80_8 u80_9 u80_10 u80_11)) (w1 := fun u => (W_X5 cI q8 n2_0 n2_1 n2_2 n2_3 n2_4 n2_5 n2_6 n2_7 n2_8 n2_9 n2_10 u.1 u.2.1 u.2.2.1 mw_23 u.2.2.2.1 mn_23 mu_23 u.2.2.2.2.1 u.2.2.2.2.2.1 u.2.2.2.2.2.2.1 u.2.2.2.2.2.2.2.1 u.2.2.2.2.2.2.2.2.1 u.2.2.2.2.2.2.2.2.2.1 u.2.2.2.2.2.2.2.2.2.2.1 u.2.2.2.2.2.2.2.2.2.2.2.1 u.2.2.2.2.2.2.2.2.2.2.2.2)) (fun u => (W_L cI cJ q0 n1_0 n1_1 n1_2 n1_3 n1_4 n1_5 n1_6 n1_7 n1_8 n1_9 n1_10 n1_11 n1_12 n1_13 n1_14 q8 n2_0 n2_1 n2_2 n2_3 n2_4 n2_5 n2_6 n2_7 n2_8 n2_9 n2_10 o0 u80_0 xt_23 gn_23 gu_23 gb_23 ga_23 u80_1 u80_2 u80_3 u80_4 u80_5 u80_6 u80_7 u80_8 u80_9 u80_10 u.1 u.2.1 u.2.2.1 mw_23 u.2.2.2.1 mn_23 mu_23 u.2.2.2.2.1 u.2.2.2.2.2.1 u.2.2.2.2.2.2.1 u.2.2.2.2.2.2.2.1 u.2.2.2.2.2.2.2.2.1 u.2.2.2.2.2.2.2.2.2.1 u.2.2.2.2.2.2.2.2.2.2.1 u.2.2.2.2.2.2.2.2.2.2.2.1 u.2.2.2.2.2.2.2.2.2.2.2.2 u80_11)) hP hK hD hN hS hA [16, 17, 18, 19, 20, 21, 22, 23, 24, 25, 26, 27] [0, 1, 2, 3, 4, 5, 6, 7, 8, 9, 10, 11, 12, 13, 14, 15, 28] rfl rfl (by decide) (by decide) (by decide) [0, 1, 2, 3, 4, 5, 6, 7, 8, 9, 10, 11, 12, 13, 14, 15, 17, 18, 19, 20, 21, 22, 23, 24, 25, 26, 27, 28, 16] (by decide) (fun _ => rfl) (fun hg => va_runV (As := [.int (xs ((v23_4 + 1)).toNatClampNeg)]) (rest := []) ⟨hx, hb, hml, hown, hts⟩ (c_X5_raise l D cI q8 n2_0 n2_1 n2_2 n2_3 n2_4 n2_5 n2_6 n2_7 n2_8 n2_9 n2_10 mr_23 mc_23 me_23 mw_23 mh_23 mn_23 mu_23 ms_23 mt_23 md_23 mz_23 mi_23 mk_23 mo_23 mj_23 ml_23 _ (xs ((v23_4 + 1)).toNatClampNeg) hq82) (cwV 1 hts gL_law_X5_raise rfl rfl rfl (by decide +kernel) ⟨Nat.le_of_ble_eq_true rfl, Nat.le_of_ble_eq_true rfl⟩) ⟨PW.blind, va_recv hK hP (ci := 5) (q0 := 16) rfl rfl, fun U hU hW => ⟨rfl, hg U hU hW⟩⟩ rfl rfl hl.1 rfl (lv_room (Nat.le_of_ble_eq_true rfl)) dL_law_613 ⟨(show (kc + 2) + 0 ≤ 601024 from by omega), (show (ks + 12) + 0 ≤ 7293034 from by omega)⟩) (fun r82 u H locs hw hP hD hS => ?_)
          obtain ⟨u82_0, u82_1, u82_2, u82_3, u82_4, u82_5, u82_6, u82_7, u82_8, u82_9, u82_10, u82_11, u82_12⟩ := u
          rw [hw] at he
          try dsimp only at he
          replace hp := hp r82 u82_0 u82_1 u82_2 u82_3 u82_4 u82_5 u82_6 u82_7 u82_8 u82_9 u82_10 u82_11 u82_12 hw
          have hP : va_P D vwCl (W_L cI cJ q0 n1_0 n1_1 n1_2 n1_3 n1_4 n1_5 n1_6 n1_7 n1_8 n1_9 n1_10 n1_11 n1_12 n1_13 n1_14 q8 n2_0 n2_1 n2_2 n2_3 n2_4 n2_5 n2_6 n2_7 n2_8 n2_9 n2_10 o0 u80_0 xt_23 gn_23 gu_23 gb_23 ga_23 u80_1 u80_2 u80_3 u80_4 u80_5 u80_6 u80_7 u80_8 u80_9 u80_10 u82_0 u82_1 u82_2 mw_23 u82_3 mn_23 mu_23 u82_4 u82_5 u82_6 u82_7 u82_8 u82_9 u82_10 u82_11 u82_12 u80_11) H := hP
          have hD : va_D A (W_L cI cJ q0 n1_0 n1_1 n1_2 n1_3 n1_4 n1_5 n1_6 n1_7 n1_8 n1_9 n1_10 n1_11 n1_12 n1_13 n1_14 q8 n2_0 n2_1 n2_2 n2_3 n2_4 n2_5 n2_6 n2_7 n2_8 n2_9 n2_10 o0 u80_0 xt_23 gn_23 gu_23 gb_23 ga_23 u80_1 u80_2 u80_3 u80_4 u80_5 u80_6 u80_7 u80_8 u80_9 u80_10 u82_0 u82_1 u82_2 mw_23 u82_3 mn_23 mu_23 u82_4 u82_5 u82_6 u82_7 u82_8 u82_9 u82_10 u82_11 u82_12 u80_11) := hD
          refine lv_istore (lv' := [(6, .int r82), (5, .int r80), (4, .int v23_4), (3, .ref o0), (2, .ref q8), (1, .ref q0), (0, .ref b0)]) hx hb dL_law_616 hl (by decide) rfl (fun ls hl => ?_)
          refine lv_aload_n hx hb dL_law_618 rfl (lv_at hl 4 rfl) ?_
          refine k_calli (S := Unit) (wc := (W_X5 cI q8 n2_0 n2_1 n2_2 n2_3 n2_4 n2_5 n2_6 n2_7 n2_8 n2_9 n2_10 u82_0 u82_1 u82_2 mw_23 u82_3 mn_23 mu_23 u82_4 u82_5 u82_6 u82_7 u82_8 u82_9 u82_10 u82_11 u82_12)) (wr := (W_O cI cJ q0 n1_0 n1_1 n1_2 n1_3 n1_4 n1_5 n1_6 n1_7 n1_8 n1_9 n1_10 n1_11 n1_12 n1_13 n1_14 o0 u80_0 xt_23 gn_23 gu_23 gb_23 ga_23 u80_1 u80_2 u80_3 u80_4 u80_5 u80_6 u80_7 u80_8 u80_9 u80_10 u80_11)) (w1 := fun u => (W_X5 cI q8 n2_0 n2_1 n2_2 n2_3 n2_4 n2_5 n2_6 n2_7 n2_8 n2_9 n2_10 u82_0 u82_1 u82_2 mw_23 u82_3 mn_23 mu_23 u82_4 u82_5 u82_6 u82_7 u82_8 u82_9 u82_10 u82_11 u82_12)) (fun u => (W_L cI cJ q0 n1_0 n1_1 n1_2 n1_3 n1_4 n1_5 n1_6 n1_7 n1_8 n1_9 n1_10 n1_11 n1_12 n1_13 n1_14 q8 n2_0 n2_1 n2_2 n2_3 n2_4 n2_5 n2_6 n2_7 n2_8 n2_9 n2_10 o0 u80_0 xt_23 gn_23 gu_23 gb_23 ga_23 u80_1 u80_2 u80_3 u80_4 u80_5 u80_6 u80_7 u80_8 u80_9 u80_10 u82_0 u82_1 u82_2 mw_23 u82_3 mn_23 mu_23 u82_4 u82_5 u82_6 u82_7 u82_8 u82_9 u82_10 u82_11 u82_12 u80_11)) hP hK hD hN hS hA [16, 17, 18, 19, 20, 21, 22, 23, 24, 25, 26, 27] [0, 1, 2, 3, 4, 5, 6, 7, 8, 9, 10, 11, 12, 13, 14, 15, 28] rfl rfl (by decide) (by decide) (by decide) [0, 1, 2, 3, 4, 5, 6, 7, 8, 9, 10, 11, 12, 13, 14, 15, 17, 18, 19, 20, 21, 22, 23, 24, 25, 26, 27, 28, 16] (by decide) (fun _ => rfl) (fun hg => va_runV (As := []) (rest := []) ⟨hx, hb, hml, hown, hts⟩ (c_X5_thrown l D cI q8 n2_0 n2_1 n2_2 n2_3 n2_4 n2_5 n2_6 n2_7 n2_8 n2_9 n2_10 u82_0 u82_1 u82_2 mw_23 u82_3 mn_23 mu_23 u82_4 u82_5 u82_6 u82_7 u82_8 u82_9 u82_10 u82_11 u82_12 _ ) (cwV 0 hts gL_law_X5_thrown rfl rfl rfl (by decide +kernel) ⟨Nat.le_of_ble_eq_true rfl, Nat.le_of_ble_eq_true rfl⟩) ⟨PW.blind, va_recv hK hP (ci := 5) (q0 := 16) rfl rfl, fun U hU hW => ⟨rfl, hg U hU hW⟩⟩ rfl rfl hl.1 rfl (lv_room (Nat.le_of_ble_eq_true rfl)) dL_law_619 ⟨(show (kc + 2) + 0 ≤ 601024 from by omega), (show (ks + 12) + 0 ≤ 7293034 from by omega)⟩) (fun r83 u H locs hw hP hD hS => ?_)
          subst hw
          refine lv_iload hx hb dL_law_622 (lv_at hl 1 rfl) ?_
          refine lv_icmp_eq (tgt := 629) hx hb dL_law_624 (by decide) (fun c84 => ?_) (fun c84 => ?_)
          · replace hp := hp.1 c84
            replace he := he.trans (if_pos c84)
            refine lv_iload hx hb dL_law_629 (lv_at hl 1 rfl) ?_
            refine lv_if_ne (tgt := 646) hx hb dL_law_631 (by decide) (fun c85 => ?_) (fun c85 => ?_)
            · replace hp := hp.2 c85
              replace he := he.trans (if_neg c85)
              refine lv_goto (tgt := 1579) hx hb dL_law_646 (by decide) ?_
              refine lv_iinc (v := (v23_4 + 3)) (lv' := [(4, .int (v23_4 + 3)), (6, .int r82), (5, .int r80), (3, .ref o0), (2, .ref q8), (1, .ref q0), (0, .ref b0)]) hx hb dL_law_1579 hl (k := 2) rfl rfl (by decide) rfl (fun ls hl => ?_)
              refine lv_goto (tgt := 23) hx hb dL_law_1582 (by decide) ?_
              refine W.widen (k := kc + 2) (n := ks + 9) (by omega) (by omega) ?_
              exact ih _ _ _ _ _ _ _ _ _ _ _ _ _ _ _ _ _ _ _ _ _ _ _ _ _ _ _ _ _ _ _ _ _ _ (kc + 2) (ks + 9) (by omega) (by omega) hp he _ _ hP hD hS _ (lv_sub hl [0, 3, 4, 5, 6] rfl)
            · replace hp := hp.1 c85
              replace he := he.trans (if_pos c85)
              refine lv_aload_n hx hb dL_law_634 rfl (lv_at hl 3 rfl) ?_
              refine lv_iconst (v := 0) hx hb dL_law_635 (by decide) ?_
              refine va_lald hx hb hK hP 28 1 rfl rfl (by decide) dL_law_636 ?_
              refine lv_iload hx hb dL_law_637 (lv_at hl 0 rfl) ?_
              refine lv_i2l (v := (r82).toInt64) hx hb dL_law_639 rfl ?_
              refine W.lcmp hx hb dL_law_640 ?_
              refine lv_if_eq (tgt := 646) hx hb dL_law_641 (by decide) (fun c87 => ?_) (fun c87 => ?_)
              · replace hp := hp.1 c87
                replace he := he.trans (if_pos c87)
                refine lv_goto (tgt := 1579) hx hb dL_law_646 (by decide) ?_
                refine lv_iinc (v := (v23_4 + 3)) (lv' := [(4, .int (v23_4 + 3)), (6, .int r82), (5, .int r80), (3, .ref o0), (2, .ref q8), (1, .ref q0), (0, .ref b0)]) hx hb dL_law_1579 hl (k := 2) rfl rfl (by decide) rfl (fun ls hl => ?_)
                refine lv_goto (tgt := 23) hx hb dL_law_1582 (by decide) ?_
                refine W.widen (k := kc + 2) (n := ks + 9) (by omega) (by omega) ?_
                exact ih _ _ _ _ _ _ _ _ _ _ _ _ _ _ _ _ _ _ _ _ _ _ _ _ _ _ _ _ _ _ _ _ _ _ (kc + 2) (ks + 9) (by omega) (by omega) hp he _ _ hP hD hS _ (lv_sub hl [0, 3, 4, 5, 6] rfl)
              · replace hp := hp.2 c87
                replace he := he.trans (if_neg c87)
                refine lv_iconst (v := 0) hx hb dL_law_644 (by decide) ?_
                exact absurd he (by decide)
          · replace hp := hp.2 c84
            replace he := he.trans (if_neg c84)
            refine lv_iconst (v := 0) hx hb dL_law_627 (by decide) ?_
            exact absurd he (by decide)
        replace he := he.trans (if_neg s7)
        replace hp := hp.2 s7
        rcases Decidable.em (((xs (v23_4).toNatClampNeg) &&& 31) = 8) with s8 | s8
        · replace he := he.trans (if_pos s8)
          replace hp := hp.1 s8
          refine lv_tableIn (off := 610) (tgt := 649) hx hb dL_law_39 (by rw [s8]; decide) (by rw [s8]; decide) (by rw [s8]; rfl) (by decide) ?_
          refine lv_aload_n hx hb dL_law_649 rfl (lv_at hl 3 rfl) ?_
          refine lv_aload_n hx hb dL_law_650 rfl (lv_at hl 4 rfl) ?_
          refine lv_iload hx hb dL_law_651 (lv_at hl 0 rfl) ?_
          refine lv_iconst (v := 1) hx hb dL_law_653 (by decide) ?_
          refine lv_iadd hx hb dL_law_654 ?_
          have h88 := hp.1
          replace hp := hp.2
          refine va_sld hx hb hX hbl hbA hS h88 dL_law_655 ?_
          refine lv_aload_n hx hb dL_law_656 rfl (lv_at hl 1 rfl) ?_
          have hq89 := hp.1
          replace hp := hp.2
          refine k_ycalli (S := Int32 × Int32 × AA × AA × AA × AA × AA × AA × LA) (wc := (W_O cI cJ q0 n1_0 n1_1 n1_2 n1_3 n1_4 n1_5 n1_6 n1_7 n1_8 n1_9 n1_10 n1_11 n1_12 n1_13 n1_14 o0 xr_23 xt_23 gn_23 gu_23 gb_23 ga_23 lc_23 lk_23 ln_23 lt_23 ll_23 lr_23 tw_23 tn_23 ts_23 tt_23 oo_23)) (wr := (W_X5 cI q8 n2_0 n2_1 n2_2 n2_3 n2_4 n2_5 n2_6 n2_7 n2_8 n2_9 n2_10 mr_23 mc_23 me_23 mw_23 mh_23 mn_23 mu_23 ms_23 mt_23 md_23 mz_23 mi_23 mk_23 mo_23 mj_23 ml_23)) (w1 := fun u => (W_O cI cJ q0 n1_0 n1_1 n1_2 n1_3 n1_4 n1_5 n1_6 n1_7 n1_8 n1_9 n1_10 n1_11 n1_12 n1_13 n1_14 o0 u.1 xt_23 gn_23 gu_23 gb_23 ga_23 u.2.1 u.2.2.1 u.2.2.2.1 u.2.2.2.2.1 u.2.2.2.2.2.1 lr_23 tw_23 u.2.2.2.2.2.2.1 u.2.2.2.2.2.2.2.1 tt_23 u.2.2.2.2.2.2.2.2)) (fun u => (W_L cI cJ q0 n1_0 n1_1 n1_2 n1_3 n1_4 n1_5 n1_6 n1_7 n1_8 n1_9 n1_10 n1_11 n1_12 n1_13 n1_14 q8 n2_0 n2_1 n2_2 n2_3 n2_4 n2_5 n2_6 n2_7 n2_8 n2_9 n2_10 o0 u.1 xt_23 gn_23 gu_23 gb_23 ga_23 u.2.1 u.2.2.1 u.2.2.2.1 u.2.2.2.2.1 u.2.2.2.2.2.1 lr_23 tw_23 u.2.2.2.2.2.2.1 u.2.2.2.2.2.2.2.1 tt_23 mr_23 mc_23 me_23 mw_23 mh_23 mn_23 mu_23 ms_23 mt_23 md_23 mz_23 mi_23 mk_23 mo_23 mj_23 ml_23 u.2.2.2.2.2.2.2.2)) hP hK hD hN hXB hS hA [0, 1, 2, 3, 4, 5, 6, 7, 8, 9, 10, 11, 12, 13, 14, 15, 28] [16, 17, 18, 19, 20, 21, 22, 23, 24, 25, 26, 27] rfl rfl (by decide) (by decide) (by decide) [12, 13, 14, 15, 16, 17, 18, 19, 20, 21, 22, 23, 24, 25, 26, 27, 0, 1, 2, 3, 4, 5, 6, 7, 8, 9, 10, 11, 28] (by decide) (fun _ => rfl) (fun hg => va_runS (As := [.ref q0, .int (xs ((v23_4 + 1)).toNatClampNeg), .ref o0]) (rest := []) ⟨hx, hb, hml, hown, hts⟩ (c_L_clear l D cI cJ q0 n1_0 n1_1 n1_2 n1_3 n1_4 n1_5 n1_6 n1_7 n1_8 n1_9 n1_10 n1_11 n1_12 n1_13 n1_14 o0 xr_23 xt_23 gn_23 gu_23 gb_23 ga_23 lc_23 lk_23 ln_23 lt_23 ll_23 lr_23 tw_23 tn_23 ts_23 tt_23 oo_23 _ (xs ((v23_4 + 1)).toNatClampNeg) hq89 hst) (va_cwS 3 hts gL_law_L_clear rfl rfl rfl (by decide +kernel) ⟨Nat.le_of_ble_eq_true rfl, Nat.le_of_ble_eq_true rfl⟩) ⟨PX.blind, fun U hU hW => ⟨rfl, hg U hU hW⟩⟩ rfl rfl hl.1 rfl (lv_room (Nat.le_of_ble_eq_true rfl)) dL_law_657 ⟨(show kc + 2 ≤ 601024 from by omega), (show ks + 12 ≤ 7293034 from by omega)⟩) (fun r89 u H locs hw hP hD hS => ?_)
          obtain ⟨u89_0, u89_1, u89_2, u89_3, u89_4, u89_5, u89_6, u89_7, u89_8⟩ := u
          rw [hw] at he
          try dsimp only at he
          replace hp := hp r89 u89_0 u89_1 u89_2 u89_3 u89_4 u89_5 u89_6 u89_7 u89_8 hw
          have hP : va_P D vwCl (W_L cI cJ q0 n1_0 n1_1 n1_2 n1_3 n1_4 n1_5 n1_6 n1_7 n1_8 n1_9 n1_10 n1_11 n1_12 n1_13 n1_14 q8 n2_0 n2_1 n2_2 n2_3 n2_4 n2_5 n2_6 n2_7 n2_8 n2_9 n2_10 o0 u89_0 xt_23 gn_23 gu_23 gb_23 ga_23 u89_1 u89_2 u89_3 u89_4 u89_5 lr_23 tw_23 u89_6 u89_7 tt_23 mr_23 mc_23 me_23 mw_23 mh_23 mn_23 mu_23 ms_23 mt_23 md_23 mz_23 mi_23 mk_23 mo_23 mj_23 ml_23 u89_8) H := hP
          have hD : va_D A (W_L cI cJ q0 n1_0 n1_1 n1_2 n1_3 n1_4 n1_5 n1_6 n1_7 n1_8 n1_9 n1_10 n1_11 n1_12 n1_13 n1_14 q8 n2_0 n2_1 n2_2 n2_3 n2_4 n2_5 n2_6 n2_7 n2_8 n2_9 n2_10 o0 u89_0 xt_23 gn_23 gu_23 gb_23 ga_23 u89_1 u89_2 u89_3 u89_4 u89_5 lr_23 tw_23 u89_6 u89_7 tt_23 mr_23 mc_23 me_23 mw_23 mh_23 mn_23 mu_23 ms_23 mt_23 md_23 mz_23 mi_23 mk_23 mo_23 mj_23 ml_23 u89_8) := hD
          refine lv_istore (lv' := [(5, .int r89), (4, .int v23_4), (3, .ref o0), (2, .ref q8), (1, .ref q0), (0, .ref b0)]) hx hb dL_law_660 hl (by decide) rfl (fun ls hl => ?_)
          refine lv_aload_n hx hb dL_law_662 rfl (lv_at hl 3 rfl) ?_
          refine lv_aload_n hx hb dL_law_663 rfl (lv_at hl 5 rfl) ?_
          refine lv_iload hx hb dL_law_664 (lv_at hl 1 rfl) ?_
          refine lv_iconst (v := 1) hx hb dL_law_666 (by decide) ?_
          refine lv_iadd hx hb dL_law_667 ?_
          have h90 := hp.1
          replace hp := hp.2
          refine va_sld hx hb hX hbl hbA hS h90 dL_law_668 ?_
          have hq91 := hp.1
          replace hp := hp.2
          refine k_calli (S := Int32 × Int32 × Int32 × AA × AA × AA × AA × AA × AA) (wc := (W_X5 cI q8 n2_0 n2_1 n2_2 n2_3 n2_4 n2_5 n2_6 n2_7 n2_8 n2_9 n2_10 mr_23 mc_23 me_23 mw_23 mh_23 mn_23 mu_23 ms_23 mt_23 md_23 mz_23 mi_23 mk_23 mo_23 mj_23 ml_23)) (wr := (W_O cI cJ q0 n1_0 n1_1 n1_2 n1_3 n1_4 n1_5 n1_6 n1_7 n1_8 n1_9 n1_10 n1_11 n1_12 n1_13 n1_14 o0 u89_0 xt_23 gn_23 gu_23 gb_23 ga_23 u89_1 u89_2 u89_3 u89_4 u89_5 lr_23 tw_23 u89_6 u89_7 tt_23 u89_8)) (w1 := fun u => (W_X5 cI q8 n2_0 n2_1 n2_2 n2_3 n2_4 n2_5 n2_6 n2_7 n2_8 n2_9 n2_10 u.1 mc_23 u.2.1 mw_23 u.2.2.1 mn_23 mu_23 ms_23 mt_23 u.2.2.2.1 u.2.2.2.2.1 mi_23 u.2.2.2.2.2.1 u.2.2.2.2.2.2.1 u.2.2.2.2.2.2.2.1 u.2.2.2.2.2.2.2.2)) (fun u => (W_L cI cJ q0 n1_0 n1_1 n1_2 n1_3 n1_4 n1_5 n1_6 n1_7 n1_8 n1_9 n1_10 n1_11 n1_12 n1_13 n1_14 q8 n2_0 n2_1 n2_2 n2_3 n2_4 n2_5 n2_6 n2_7 n2_8 n2_9 n2_10 o0 u89_0 xt_23 gn_23 gu_23 gb_23 ga_23 u89_1 u89_2 u89_3 u89_4 u89_5 lr_23 tw_23 u89_6 u89_7 tt_23 u.1 mc_23 u.2.1 mw_23 u.2.2.1 mn_23 mu_23 ms_23 mt_23 u.2.2.2.1 u.2.2.2.2.1 mi_23 u.2.2.2.2.2.1 u.2.2.2.2.2.2.1 u.2.2.2.2.2.2.2.1 u.2.2.2.2.2.2.2.2 u89_8)) hP hK hD hN hS hA [16, 17, 18, 19, 20, 21, 22, 23, 24, 25, 26, 27] [0, 1, 2, 3, 4, 5, 6, 7, 8, 9, 10, 11, 12, 13, 14, 15, 28] rfl rfl (by decide) (by decide) (by decide) [0, 1, 2, 3, 4, 5, 6, 7, 8, 9, 10, 11, 12, 13, 14, 15, 17, 18, 19, 20, 21, 22, 23, 24, 25, 26, 27, 28, 16] (by decide) (fun _ => rfl) (fun hg => va_runV (As := [.int (xs ((v23_4 + 1)).toNatClampNeg)]) (rest := []) ⟨hx, hb, hml, hown, hts⟩ (c_X5_clear l D cI q8 n2_0 n2_1 n2_2 n2_3 n2_4 n2_5 n2_6 n2_7 n2_8 n2_9 n2_10 mr_23 mc_23 me_23 mw_23 mh_23 mn_23 mu_23 ms_23 mt_23 md_23 mz_23 mi_23 mk_23 mo_23 mj_23 ml_23 _ (xs ((v23_4 + 1)).toNatClampNeg) hq91) (cwV 1 hts gL_law_X5_clear rfl rfl rfl (by decide +kernel) ⟨Nat.le_of_ble_eq_true rfl, Nat.le_of_ble_eq_true rfl⟩) ⟨PW.blind, va_recv hK hP (ci := 5) (q0 := 16) rfl rfl, fun U hU hW => ⟨rfl, hg U hU hW⟩⟩ rfl rfl hl.1 rfl (lv_room (Nat.le_of_ble_eq_true rfl)) dL_law_669 ⟨(show (kc + 2) + 0 ≤ 601024 from by omega), (show (ks + 12) + 0 ≤ 7293034 from by omega)⟩) (fun r91 u H locs hw hP hD hS => ?_)
          obtain ⟨u91_0, u91_1, u91_2, u91_3, u91_4, u91_5, u91_6, u91_7, u91_8⟩ := u
          rw [hw] at he
          try dsimp only at he
          replace hp := hp r91 u91_0 u91_1 u91_2 u91_3 u91_4 u91_5 u91_6 u91_7 u91_8 hw
          have hP : va_P D vwCl (W_L cI cJ q0 n1_0 n1_1 n1_2 n1_3 n1_4 n1_5 n1_6 n1_7 n1_8 n1_9 n1_10 n1_11 n1_12 n1_13 n1_14 q8 n2_0 n2_1 n2_2 n2_3 n2_4 n2_5 n2_6 n2_7 n2_8 n2_9 n2_10 o0 u89_0 xt_23 gn_23 gu_23 gb_23 ga_23 u89_1 u89_2 u89_3 u89_4 u89_5 lr_23 tw_23 u89_6 u89_7 tt_23 u91_0 mc_23 u91_1 mw_23 u91_2 mn_23 mu_23 ms_23 mt_23 u91_3 u91_4 mi_23 u91_5 u91_6 u91_7 u91_8 u89_8) H := hP
          have hD : va_D A (W_L cI cJ q0 n1_0 n1_1 n1_2 n1_3 n1_4 n1_5 n1_6 n1_7 n1_8 n1_9 n1_10 n1_11 n1_12 n1_13 n1_14 q8 n2_0 n2_1 n2_2 n2_3 n2_4 n2_5 n2_6 n2_7 n2_8 n2_9 n2_10 o0 u89_0 xt_23 gn_23 gu_23 gb_23 ga_23 u89_1 u89_2 u89_3 u89_4 u89_5 lr_23 tw_23 u89_6 u89_7 tt_23 u91_0 mc_23 u91_1 mw_23 u91_2 mn_23 mu_23 ms_23 mt_23 u91_3 u91_4 mi_23 u91_5 u91_6 u91_7 u91_8 u89_8) := hD
          refine lv_istore (lv' := [(6, .int r91), (5, .int r89), (4, .int v23_4), (3, .ref o0), (2, .ref q8), (1, .ref q0), (0, .ref b0)]) hx hb dL_law_672 hl (by decide) rfl (fun ls hl => ?_)
          refine lv_aload_n hx hb dL_law_674 rfl (lv_at hl 4 rfl) ?_
          refine k_calli (S := Unit) (wc := (W_X5 cI q8 n2_0 n2_1 n2_2 n2_3 n2_4 n2_5 n2_6 n2_7 n2_8 n2_9 n2_10 u91_0 mc_23 u91_1 mw_23 u91_2 mn_23 mu_23 ms_23 mt_23 u91_3 u91_4 mi_23 u91_5 u91_6 u91_7 u91_8)) (wr := (W_O cI cJ q0 n1_0 n1_1 n1_2 n1_3 n1_4 n1_5 n1_6 n1_7 n1_8 n1_9 n1_10 n1_11 n1_12 n1_13 n1_14 o0 u89_0 xt_23 gn_23 gu_23 gb_23 ga_23 u89_1 u89_2 u89_3 u89_4 u89_5 lr_23 tw_23 u89_6 u89_7 tt_23 u89_8)) (w1 := fun u => (W_X5 cI q8 n2_0 n2_1 n2_2 n2_3 n2_4 n2_5 n2_6 n2_7 n2_8 n2_9 n2_10 u91_0 mc_23 u91_1 mw_23 u91_2 mn_23 mu_23 ms_23 mt_23 u91_3 u91_4 mi_23 u91_5 u91_6 u91_7 u91_8)) (fun u => (W_L cI cJ q0 n1_0 n1_1 n1_2 n1_3 n1_4 n1_5 n1_6 n1_7 n1_8 n1_9 n1_10 n1_11 n1_12 n1_13 n1_14 q8 n2_0 n2_1 n2_2 n2_3 n2_4 n2_5 n2_6 n2_7 n2_8 n2_9 n2_10 o0 u89_0 xt_23 gn_23 gu_23 gb_23 ga_23 u89_1 u89_2 u89_3 u89_4 u89_5 lr_23 tw_23 u89_6 u89_7 tt_23 u91_0 mc_23 u91_1 mw_23 u91_2 mn_23 mu_23 ms_23 mt_23 u91_3 u91_4 mi_23 u91_5 u91_6 u91_7 u91_8 u89_8)) hP hK hD hN hS hA [16, 17, 18, 19, 20, 21, 22, 23, 24, 25, 26, 27] [0, 1, 2, 3, 4, 5, 6, 7, 8, 9, 10, 11, 12, 13, 14, 15, 28] rfl rfl (by decide) (by decide) (by decide) [0, 1, 2, 3, 4, 5, 6, 7, 8, 9, 10, 11, 12, 13, 14, 15, 17, 18, 19, 20, 21, 22, 23, 24, 25, 26, 27, 28, 16] (by decide) (fun _ => rfl) (fun hg => va_runV (As := []) (rest := []) ⟨hx, hb, hml, hown, hts⟩ (c_X5_thrown l D cI q8 n2_0 n2_1 n2_2 n2_3 n2_4 n2_5 n2_6 n2_7 n2_8 n2_9 n2_10 u91_0 mc_23 u91_1 mw_23 u91_2 mn_23 mu_23 ms_23 mt_23 u91_3 u91_4 mi_23 u91_5 u91_6 u91_7 u91_8 _ ) (cwV 0 hts gL_law_X5_thrown rfl rfl rfl (by decide +kernel) ⟨Nat.le_of_ble_eq_true rfl, Nat.le_of_ble_eq_true rfl⟩) ⟨PW.blind, va_recv hK hP (ci := 5) (q0 := 16) rfl rfl, fun U hU hW => ⟨rfl, hg U hU hW⟩⟩ rfl rfl hl.1 rfl (lv_room (Nat.le_of_ble_eq_true rfl)) dL_law_675 ⟨(show (kc + 2) + 0 ≤ 601024 from by omega), (show (ks + 12) + 0 ≤ 7293034 from by omega)⟩) (fun r92 u H locs hw hP hD hS => ?_)
          subst hw
          refine lv_iload hx hb dL_law_678 (lv_at hl 1 rfl) ?_
          refine lv_icmp_eq (tgt := 685) hx hb dL_law_680 (by decide) (fun c93 => ?_) (fun c93 => ?_)
          · replace hp := hp.1 c93
            replace he := he.trans (if_pos c93)
            refine lv_iload hx hb dL_law_685 (lv_at hl 1 rfl) ?_
            refine lv_if_ne (tgt := 702) hx hb dL_law_687 (by decide) (fun c94 => ?_) (fun c94 => ?_)
            · replace hp := hp.2 c94
              replace he := he.trans (if_neg c94)
              refine lv_goto (tgt := 1579) hx hb dL_law_702 (by decide) ?_
              refine lv_iinc (v := (v23_4 + 3)) (lv' := [(4, .int (v23_4 + 3)), (6, .int r91), (5, .int r89), (3, .ref o0), (2, .ref q8), (1, .ref q0), (0, .ref b0)]) hx hb dL_law_1579 hl (k := 2) rfl rfl (by decide) rfl (fun ls hl => ?_)
              refine lv_goto (tgt := 23) hx hb dL_law_1582 (by decide) ?_
              refine W.widen (k := kc + 2) (n := ks + 9) (by omega) (by omega) ?_
              exact ih _ _ _ _ _ _ _ _ _ _ _ _ _ _ _ _ _ _ _ _ _ _ _ _ _ _ _ _ _ _ _ _ _ _ (kc + 2) (ks + 9) (by omega) (by omega) hp he _ _ hP hD hS _ (lv_sub hl [0, 3, 4, 5, 6] rfl)
            · replace hp := hp.1 c94
              replace he := he.trans (if_pos c94)
              refine lv_aload_n hx hb dL_law_690 rfl (lv_at hl 3 rfl) ?_
              refine lv_iconst (v := 0) hx hb dL_law_691 (by decide) ?_
              refine va_lald hx hb hK hP 28 1 rfl rfl (by decide) dL_law_692 ?_
              refine lv_iload hx hb dL_law_693 (lv_at hl 0 rfl) ?_
              refine lv_i2l (v := (r91).toInt64) hx hb dL_law_695 rfl ?_
              refine W.lcmp hx hb dL_law_696 ?_
              refine lv_if_eq (tgt := 702) hx hb dL_law_697 (by decide) (fun c96 => ?_) (fun c96 => ?_)
              · replace hp := hp.1 c96
                replace he := he.trans (if_pos c96)
                refine lv_goto (tgt := 1579) hx hb dL_law_702 (by decide) ?_
                refine lv_iinc (v := (v23_4 + 3)) (lv' := [(4, .int (v23_4 + 3)), (6, .int r91), (5, .int r89), (3, .ref o0), (2, .ref q8), (1, .ref q0), (0, .ref b0)]) hx hb dL_law_1579 hl (k := 2) rfl rfl (by decide) rfl (fun ls hl => ?_)
                refine lv_goto (tgt := 23) hx hb dL_law_1582 (by decide) ?_
                refine W.widen (k := kc + 2) (n := ks + 9) (by omega) (by omega) ?_
                exact ih _ _ _ _ _ _ _ _ _ _ _ _ _ _ _ _ _ _ _ _ _ _ _ _ _ _ _ _ _ _ _ _ _ _ (kc + 2) (ks + 9) (by omega) (by omega) hp he _ _ hP hD hS _ (lv_sub hl [0, 3, 4, 5, 6] rfl)
              · replace hp := hp.2 c96
                replace he := he.trans (if_neg c96)
                refine lv_iconst (v := 0) hx hb dL_law_700 (by decide) ?_
                exact absurd he (by decide)
          · replace hp := hp.2 c93
            replace he := he.trans (if_neg c93)
            refine lv_iconst (v := 0) hx hb dL_law_683 (by decide) ?_
            exact absurd he (by decide)
        replace he := he.trans (if_neg s8)
        replace hp := hp.2 s8
        rcases Decidable.em (((xs (v23_4).toNatClampNeg) &&& 31) = 9) with s9 | s9
        · replace he := he.trans (if_pos s9)
          replace hp := hp.1 s9
          refine lv_tableIn (off := 666) (tgt := 705) hx hb dL_law_39 (by rw [s9]; decide) (by rw [s9]; decide) (by rw [s9]; rfl) (by decide) ?_
          refine lv_aload_n hx hb dL_law_705 rfl (lv_at hl 3 rfl) ?_
          refine lv_aload_n hx hb dL_law_706 rfl (lv_at hl 4 rfl) ?_
          refine lv_iload hx hb dL_law_707 (lv_at hl 0 rfl) ?_
          refine lv_iconst (v := 1) hx hb dL_law_709 (by decide) ?_
          refine lv_iadd hx hb dL_law_710 ?_
          have h97 := hp.1
          replace hp := hp.2
          refine va_sld hx hb hX hbl hbA hS h97 dL_law_711 ?_
          refine lv_aload_n hx hb dL_law_712 rfl (lv_at hl 1 rfl) ?_
          have hq98 := hp.1
          replace hp := hp.2
          refine k_ycalli (S := LA) (wc := (W_O cI cJ q0 n1_0 n1_1 n1_2 n1_3 n1_4 n1_5 n1_6 n1_7 n1_8 n1_9 n1_10 n1_11 n1_12 n1_13 n1_14 o0 xr_23 xt_23 gn_23 gu_23 gb_23 ga_23 lc_23 lk_23 ln_23 lt_23 ll_23 lr_23 tw_23 tn_23 ts_23 tt_23 oo_23)) (wr := (W_X5 cI q8 n2_0 n2_1 n2_2 n2_3 n2_4 n2_5 n2_6 n2_7 n2_8 n2_9 n2_10 mr_23 mc_23 me_23 mw_23 mh_23 mn_23 mu_23 ms_23 mt_23 md_23 mz_23 mi_23 mk_23 mo_23 mj_23 ml_23)) (w1 := fun u => (W_O cI cJ q0 n1_0 n1_1 n1_2 n1_3 n1_4 n1_5 n1_6 n1_7 n1_8 n1_9 n1_10 n1_11 n1_12 n1_13 n1_14 o0 xr_23 xt_23 gn_23 gu_23 gb_23 ga_23 lc_23 lk_23 ln_23 lt_23 ll_23 lr_23 tw_23 tn_23 ts_23 tt_23 u)) (fun u => (W_L cI cJ q0 n1_0 n1_1 n1_2 n1_3 n1_4 n1_5 n1_6 n1_7 n1_8 n1_9 n1_10 n1_11 n1_12 n1_13 n1_14 q8 n2_0 n2_1 n2_2 n2_3 n2_4 n2_5 n2_6 n2_7 n2_8 n2_9 n2_10 o0 xr_23 xt_23 gn_23 gu_23 gb_23 ga_23 lc_23 lk_23 ln_23 lt_23 ll_23 lr_23 tw_23 tn_23 ts_23 tt_23 mr_23 mc_23 me_23 mw_23 mh_23 mn_23 mu_23 ms_23 mt_23 md_23 mz_23 mi_23 mk_23 mo_23 mj_23 ml_23 u)) hP hK hD hN hXB hS hA [0, 1, 2, 3, 4, 5, 6, 7, 8, 9, 10, 11, 12, 13, 14, 15, 28] [16, 17, 18, 19, 20, 21, 22, 23, 24, 25, 26, 27] rfl rfl (by decide) (by decide) (by decide) [12, 13, 14, 15, 16, 17, 18, 19, 20, 21, 22, 23, 24, 25, 26, 27, 0, 1, 2, 3, 4, 5, 6, 7, 8, 9, 10, 11, 28] (by decide) (fun _ => rfl) (fun hg => va_runS (As := [.ref q0, .int (xs ((v23_4 + 1)).toNatClampNeg), .ref o0]) (rest := []) ⟨hx, hb, hml, hown, hts⟩ (c_L_state l D cI cJ q0 n1_0 n1_1 n1_2 n1_3 n1_4 n1_5 n1_6 n1_7 n1_8 n1_9 n1_10 n1_11 n1_12 n1_13 n1_14 o0 xr_23 xt_23 gn_23 gu_23 gb_23 ga_23 lc_23 lk_23 ln_23 lt_23 ll_23 lr_23 tw_23 tn_23 ts_23 tt_23 oo_23 _ (xs ((v23_4 + 1)).toNatClampNeg) hq98 hst) (va_cwS 3 hts gL_law_L_state rfl rfl rfl (by decide +kernel) ⟨Nat.le_of_ble_eq_true rfl, Nat.le_of_ble_eq_true rfl⟩) ⟨PX.blind, fun U hU hW => ⟨rfl, hg U hU hW⟩⟩ rfl rfl hl.1 rfl (lv_room (Nat.le_of_ble_eq_true rfl)) dL_law_713 ⟨(show kc + 1 ≤ 601024 from by omega), (show ks + 6 ≤ 7293034 from by omega)⟩) (fun r98 u H locs hw hP hD hS => ?_)
          obtain ⟨u98_0, rfl⟩ : ∃ z, z = u := ⟨_, rfl⟩
          rw [hw] at he
          try dsimp only at he
          replace hp := hp r98 u98_0 hw
          have hP : va_P D vwCl (W_L cI cJ q0 n1_0 n1_1 n1_2 n1_3 n1_4 n1_5 n1_6 n1_7 n1_8 n1_9 n1_10 n1_11 n1_12 n1_13 n1_14 q8 n2_0 n2_1 n2_2 n2_3 n2_4 n2_5 n2_6 n2_7 n2_8 n2_9 n2_10 o0 xr_23 xt_23 gn_23 gu_23 gb_23 ga_23 lc_23 lk_23 ln_23 lt_23 ll_23 lr_23 tw_23 tn_23 ts_23 tt_23 mr_23 mc_23 me_23 mw_23 mh_23 mn_23 mu_23 ms_23 mt_23 md_23 mz_23 mi_23 mk_23 mo_23 mj_23 ml_23 u98_0) H := hP
          have hD : va_D A (W_L cI cJ q0 n1_0 n1_1 n1_2 n1_3 n1_4 n1_5 n1_6 n1_7 n1_8 n1_9 n1_10 n1_11 n1_12 n1_13 n1_14 q8 n2_0 n2_1 n2_2 n2_3 n2_4 n2_5 n2_6 n2_7 n2_8 n2_9 n2_10 o0 xr_23 xt_23 gn_23 gu_23 gb_23 ga_23 lc_23 lk_23 ln_23 lt_23 ll_23 lr_23 tw_23 tn_23 ts_23 tt_23 mr_23 mc_23 me_23 mw_23 mh_23 mn_23 mu_23 ms_23 mt_23 md_23 mz_23 mi_23 mk_23 mo_23 mj_23 ml_23 u98_0) := hD
          refine lv_istore (lv' := [(5, .int r98), (4, .int v23_4), (3, .ref o0), (2, .ref q8), (1, .ref q0), (0, .ref b0)]) hx hb dL_law_716 hl (by decide) rfl (fun ls hl => ?_)
          refine lv_aload_n hx hb dL_law_718 rfl (lv_at hl 3 rfl) ?_
          refine lv_aload_n hx hb dL_law_719 rfl (lv_at hl 5 rfl) ?_
          refine lv_iload hx hb dL_law_720 (lv_at hl 1 rfl) ?_
          refine lv_iconst (v := 1) hx hb dL_law_722 (by decide) ?_
          refine lv_iadd hx hb dL_law_723 ?_
          have h99 := hp.1
          replace hp := hp.2
          refine va_sld hx hb hX hbl hbA hS h99 dL_law_724 ?_
          have hq100 := hp.1
          replace hp := hp.2
          refine k_calli (S := Int32) (wc := (W_X5 cI q8 n2_0 n2_1 n2_2 n2_3 n2_4 n2_5 n2_6 n2_7 n2_8 n2_9 n2_10 mr_23 mc_23 me_23 mw_23 mh_23 mn_23 mu_23 ms_23 mt_23 md_23 mz_23 mi_23 mk_23 mo_23 mj_23 ml_23)) (wr := (W_O cI cJ q0 n1_0 n1_1 n1_2 n1_3 n1_4 n1_5 n1_6 n1_7 n1_8 n1_9 n1_10 n1_11 n1_12 n1_13 n1_14 o0 xr_23 xt_23 gn_23 gu_23 gb_23 ga_23 lc_23 lk_23 ln_23 lt_23 ll_23 lr_23 tw_23 tn_23 ts_23 tt_23 u98_0)) (w1 := fun u => (W_X5 cI q8 n2_0 n2_1 n2_2 n2_3 n2_4 n2_5 n2_6 n2_7 n2_8 n2_9 n2_10 mr_23 mc_23 me_23 mw_23 u mn_23 mu_23 ms_23 mt_23 md_23 mz_23 mi_23 mk_23 mo_23 mj_23 ml_23)) (fun u => (W_L cI cJ q0 n1_0 n1_1 n1_2 n1_3 n1_4 n1_5 n1_6 n1_7 n1_8 n1_9 n1_10 n1_11 n1_12 n1_13 n1_14 q8 n2_0 n2_1 n2_2 n2_3 n2_4 n2_5 n2_6 n2_7 n2_8 n2_9 n2_10 o0 xr_23 xt_23 gn_23 gu_23 gb_23 ga_23 lc_23 lk_23 ln_23 lt_23 ll_23 lr_23 tw_23 tn_23 ts_23 tt_23 mr_23 mc_23 me_23 mw_23 u mn_23 mu_23 ms_23 mt_23 md_23 mz_23 mi_23 mk_23 mo_23 mj_23 ml_23 u98_0)) hP hK hD hN hS hA [16, 17, 18, 19, 20, 21, 22, 23, 24, 25, 26, 27] [0, 1, 2, 3, 4, 5, 6, 7, 8, 9, 10, 11, 12, 13, 14, 15, 28] rfl rfl (by decide) (by decide) (by decide) [0, 1, 2, 3, 4, 5, 6, 7, 8, 9, 10, 11, 12, 13, 14, 15, 17, 18, 19, 20, 21, 22, 23, 24, 25, 26, 27, 28, 16] (by decide) (fun _ => rfl) (fun hg => va_runV (As := [.int (xs ((v23_4 + 1)).toNatClampNeg)]) (rest := []) ⟨hx, hb, hml, hown, hts⟩ (c_X5_state l D cI q8 n2_0 n2_1 n2_2 n2_3 n2_4 n2_5 n2_6 n2_7 n2_8 n2_9 n2_10 mr_23 mc_23 me_23 mw_23 mh_23 mn_23 mu_23 ms_23 mt_23 md_23 mz_23 mi_23 mk_23 mo_23 mj_23 ml_23 _ (xs ((v23_4 + 1)).toNatClampNeg) hq100) (cwV 1 hts gL_law_X5_state rfl rfl rfl (by decide +kernel) ⟨Nat.le_of_ble_eq_true rfl, Nat.le_of_ble_eq_true rfl⟩) ⟨PW.blind, va_recv hK hP (ci := 5) (q0 := 16) rfl rfl, fun U hU hW => ⟨rfl, hg U hU hW⟩⟩ rfl rfl hl.1 rfl (lv_room (Nat.le_of_ble_eq_true rfl)) dL_law_725 ⟨(show (kc + 1) + 0 ≤ 601024 from by omega), (show (ks + 6) + 0 ≤ 7293034 from by omega)⟩) (fun r100 u H locs hw hP hD hS => ?_)
          obtain ⟨u100_0, rfl⟩ : ∃ z, z = u := ⟨_, rfl⟩
          rw [hw] at he
          try dsimp only at he
          replace hp := hp r100 u100_0 hw
          have hP : va_P D vwCl (W_L cI cJ q0 n1_0 n1_1 n1_2 n1_3 n1_4 n1_5 n1_6 n1_7 n1_8 n1_9 n1_10 n1_11 n1_12 n1_13 n1_14 q8 n2_0 n2_1 n2_2 n2_3 n2_4 n2_5 n2_6 n2_7 n2_8 n2_9 n2_10 o0 xr_23 xt_23 gn_23 gu_23 gb_23 ga_23 lc_23 lk_23 ln_23 lt_23 ll_23 lr_23 tw_23 tn_23 ts_23 tt_23 mr_23 mc_23 me_23 mw_23 u100_0 mn_23 mu_23 ms_23 mt_23 md_23 mz_23 mi_23 mk_23 mo_23 mj_23 ml_23 u98_0) H := hP
          have hD : va_D A (W_L cI cJ q0 n1_0 n1_1 n1_2 n1_3 n1_4 n1_5 n1_6 n1_7 n1_8 n1_9 n1_10 n1_11 n1_12 n1_13 n1_14 q8 n2_0 n2_1 n2_2 n2_3 n2_4 n2_5 n2_6 n2_7 n2_8 n2_9 n2_10 o0 xr_23 xt_23 gn_23 gu_23 gb_23 ga_23 lc_23 lk_23 ln_23 lt_23 ll_23 lr_23 tw_23 tn_23 ts_23 tt_23 mr_23 mc_23 me_23 mw_23 u100_0 mn_23 mu_23 ms_23 mt_23 md_23 mz_23 mi_23 mk_23 mo_23 mj_23 ml_23 u98_0) := hD
          refine lv_istore (lv' := [(6, .int r100), (5, .int r98), (4, .int v23_4), (3, .ref o0), (2, .ref q8), (1, .ref q0), (0, .ref b0)]) hx hb dL_law_728 hl (by decide) rfl (fun ls hl => ?_)
          refine lv_aload_n hx hb dL_law_730 rfl (lv_at hl 4 rfl) ?_
          refine k_calli (S := Unit) (wc := (W_X5 cI q8 n2_0 n2_1 n2_2 n2_3 n2_4 n2_5 n2_6 n2_7 n2_8 n2_9 n2_10 mr_23 mc_23 me_23 mw_23 u100_0 mn_23 mu_23 ms_23 mt_23 md_23 mz_23 mi_23 mk_23 mo_23 mj_23 ml_23)) (wr := (W_O cI cJ q0 n1_0 n1_1 n1_2 n1_3 n1_4 n1_5 n1_6 n1_7 n1_8 n1_9 n1_10 n1_11 n1_12 n1_13 n1_14 o0 xr_23 xt_23 gn_23 gu_23 gb_23 ga_23 lc_23 lk_23 ln_23 lt_23 ll_23 lr_23 tw_23 tn_23 ts_23 tt_23 u98_0)) (w1 := fun u => (W_X5 cI q8 n2_0 n2_1 n2_2 n2_3 n2_4 n2_5 n2_6 n2_7 n2_8 n2_9 n2_10 mr_23 mc_23 me_23 mw_23 u100_0 mn_23 mu_23 ms_23 mt_23 md_23 mz_23 mi_23 mk_23 mo_23 mj_23 ml_23)) (fun u => (W_L cI cJ q0 n1_0 n1_1 n1_2 n1_3 n1_4 n1_5 n1_6 n1_7 n1_8 n1_9 n1_10 n1_11 n1_12 n1_13 n1_14 q8 n2_0 n2_1 n2_2 n2_3 n2_4 n2_5 n2_6 n2_7 n2_8 n2_9 n2_10 o0 xr_23 xt_23 gn_23 gu_23 gb_23 ga_23 lc_23 lk_23 ln_23 lt_23 ll_23 lr_23 tw_23 tn_23 ts_23 tt_23 mr_23 mc_23 me_23 mw_23 u100_0 mn_23 mu_23 ms_23 mt_23 md_23 mz_23 mi_23 mk_23 mo_23 mj_23 ml_23 u98_0)) hP hK hD hN hS hA [16, 17, 18, 19, 20, 21, 22, 23, 24, 25, 26, 27] [0, 1, 2, 3, 4, 5, 6, 7, 8, 9, 10, 11, 12, 13, 14, 15, 28] rfl rfl (by decide) (by decide) (by decide) [0, 1, 2, 3, 4, 5, 6, 7, 8, 9, 10, 11, 12, 13, 14, 15, 17, 18, 19, 20, 21, 22, 23, 24, 25, 26, 27, 28, 16] (by decide) (fun _ => rfl) (fun hg => va_runV (As := []) (rest := []) ⟨hx, hb, hml, hown, hts⟩ (c_X5_thrown l D cI q8 n2_0 n2_1 n2_2 n2_3 n2_4 n2_5 n2_6 n2_7 n2_8 n2_9 n2_10 mr_23 mc_23 me_23 mw_23 u100_0 mn_23 mu_23 ms_23 mt_23 md_23 mz_23 mi_23 mk_23 mo_23 mj_23 ml_23 _ ) (cwV 0 hts gL_law_X5_thrown rfl rfl rfl (by decide +kernel) ⟨Nat.le_of_ble_eq_true rfl, Nat.le_of_ble_eq_true rfl⟩) ⟨PW.blind, va_recv hK hP (ci := 5) (q0 := 16) rfl rfl, fun U hU hW => ⟨rfl, hg U hU hW⟩⟩ rfl rfl hl.1 rfl (lv_room (Nat.le_of_ble_eq_true rfl)) dL_law_731 ⟨(show (kc + 1) + 0 ≤ 601024 from by omega), (show (ks + 6) + 0 ≤ 7293034 from by omega)⟩) (fun r101 u H locs hw hP hD hS => ?_)
          subst hw
          refine lv_iload hx hb dL_law_734 (lv_at hl 1 rfl) ?_
          refine lv_icmp_eq (tgt := 741) hx hb dL_law_736 (by decide) (fun c102 => ?_) (fun c102 => ?_)
          · replace hp := hp.1 c102
            replace he := he.trans (if_pos c102)
            refine lv_iload hx hb dL_law_741 (lv_at hl 1 rfl) ?_
            refine lv_if_ne (tgt := 758) hx hb dL_law_743 (by decide) (fun c103 => ?_) (fun c103 => ?_)
            · replace hp := hp.2 c103
              replace he := he.trans (if_neg c103)
              refine lv_goto (tgt := 1579) hx hb dL_law_758 (by decide) ?_
              refine lv_iinc (v := (v23_4 + 3)) (lv' := [(4, .int (v23_4 + 3)), (6, .int r100), (5, .int r98), (3, .ref o0), (2, .ref q8), (1, .ref q0), (0, .ref b0)]) hx hb dL_law_1579 hl (k := 2) rfl rfl (by decide) rfl (fun ls hl => ?_)
              refine lv_goto (tgt := 23) hx hb dL_law_1582 (by decide) ?_
              refine W.widen (k := kc + 2) (n := ks + 9) (by omega) (by omega) ?_
              exact ih _ _ _ _ _ _ _ _ _ _ _ _ _ _ _ _ _ _ _ _ _ _ _ _ _ _ _ _ _ _ _ _ _ _ (kc + 2) (ks + 9) (by omega) (by omega) hp he _ _ hP hD hS _ (lv_sub hl [0, 3, 4, 5, 6] rfl)
            · replace hp := hp.1 c103
              replace he := he.trans (if_pos c103)
              refine lv_aload_n hx hb dL_law_746 rfl (lv_at hl 3 rfl) ?_
              refine lv_iconst (v := 0) hx hb dL_law_747 (by decide) ?_
              refine va_lald hx hb hK hP 28 1 rfl rfl (by decide) dL_law_748 ?_
              refine lv_iload hx hb dL_law_749 (lv_at hl 0 rfl) ?_
              refine lv_i2l (v := (r100).toInt64) hx hb dL_law_751 rfl ?_
              refine W.lcmp hx hb dL_law_752 ?_
              refine lv_if_eq (tgt := 758) hx hb dL_law_753 (by decide) (fun c105 => ?_) (fun c105 => ?_)
              · replace hp := hp.1 c105
                replace he := he.trans (if_pos c105)
                refine lv_goto (tgt := 1579) hx hb dL_law_758 (by decide) ?_
                refine lv_iinc (v := (v23_4 + 3)) (lv' := [(4, .int (v23_4 + 3)), (6, .int r100), (5, .int r98), (3, .ref o0), (2, .ref q8), (1, .ref q0), (0, .ref b0)]) hx hb dL_law_1579 hl (k := 2) rfl rfl (by decide) rfl (fun ls hl => ?_)
                refine lv_goto (tgt := 23) hx hb dL_law_1582 (by decide) ?_
                refine W.widen (k := kc + 2) (n := ks + 9) (by omega) (by omega) ?_
                exact ih _ _ _ _ _ _ _ _ _ _ _ _ _ _ _ _ _ _ _ _ _ _ _ _ _ _ _ _ _ _ _ _ _ _ (kc + 2) (ks + 9) (by omega) (by omega) hp he _ _ hP hD hS _ (lv_sub hl [0, 3, 4, 5, 6] rfl)
              · replace hp := hp.2 c105
                replace he := he.trans (if_neg c105)
                refine lv_iconst (v := 0) hx hb dL_law_756 (by decide) ?_
                exact absurd he (by decide)
          · replace hp := hp.2 c102
            replace he := he.trans (if_neg c102)
            refine lv_iconst (v := 0) hx hb dL_law_739 (by decide) ?_
            exact absurd he (by decide)
        replace he := he.trans (if_neg s9)
        replace hp := hp.2 s9
        rcases Decidable.em (((xs (v23_4).toNatClampNeg) &&& 31) = 10) with s10 | s10
        · replace he := he.trans (if_pos s10)
          replace hp := hp.1 s10
          refine lv_tableIn (off := 722) (tgt := 761) hx hb dL_law_39 (by rw [s10]; decide) (by rw [s10]; decide) (by rw [s10]; rfl) (by decide) ?_
          refine lv_aload_n hx hb dL_law_761 rfl (lv_at hl 3 rfl) ?_
          refine lv_aload_n hx hb dL_law_762 rfl (lv_at hl 4 rfl) ?_
          refine lv_iload hx hb dL_law_763 (lv_at hl 0 rfl) ?_
          refine lv_iconst (v := 1) hx hb dL_law_765 (by decide) ?_
          refine lv_iadd hx hb dL_law_766 ?_
          have h106 := hp.1
          replace hp := hp.2
          refine va_sld hx hb hX hbl hbA hS h106 dL_law_767 ?_
          refine lv_aload_n hx hb dL_law_768 rfl (lv_at hl 1 rfl) ?_
          have hq107 := hp.1
          replace hp := hp.2
          refine k_ycalli (S := LA) (wc := (W_O cI cJ q0 n1_0 n1_1 n1_2 n1_3 n1_4 n1_5 n1_6 n1_7 n1_8 n1_9 n1_10 n1_11 n1_12 n1_13 n1_14 o0 xr_23 xt_23 gn_23 gu_23 gb_23 ga_23 lc_23 lk_23 ln_23 lt_23 ll_23 lr_23 tw_23 tn_23 ts_23 tt_23 oo_23)) (wr := (W_X5 cI q8 n2_0 n2_1 n2_2 n2_3 n2_4 n2_5 n2_6 n2_7 n2_8 n2_9 n2_10 mr_23 mc_23 me_23 mw_23 mh_23 mn_23 mu_23 ms_23 mt_23 md_23 mz_23 mi_23 mk_23 mo_23 mj_23 ml_23)) (w1 := fun u => (W_O cI cJ q0 n1_0 n1_1 n1_2 n1_3 n1_4 n1_5 n1_6 n1_7 n1_8 n1_9 n1_10 n1_11 n1_12 n1_13 n1_14 o0 xr_23 xt_23 gn_23 gu_23 gb_23 ga_23 lc_23 lk_23 ln_23 lt_23 ll_23 lr_23 tw_23 tn_23 ts_23 tt_23 u)) (fun u => (W_L cI cJ q0 n1_0 n1_1 n1_2 n1_3 n1_4 n1_5 n1_6 n1_7 n1_8 n1_9 n1_10 n1_11 n1_12 n1_13 n1_14 q8 n2_0 n2_1 n2_2 n2_3 n2_4 n2_5 n2_6 n2_7 n2_8 n2_9 n2_10 o0 xr_23 xt_23 gn_23 gu_23 gb_23 ga_23 lc_23 lk_23 ln_23 lt_23 ll_23 lr_23 tw_23 tn_23 ts_23 tt_23 mr_23 mc_23 me_23 mw_23 mh_23 mn_23 mu_23 ms_23 mt_23 md_23 mz_23 mi_23 mk_23 mo_23 mj_23 ml_23 u)) hP hK hD hN hXB hS hA [0, 1, 2, 3, 4, 5, 6, 7, 8, 9, 10, 11, 12, 13, 14, 15, 28] [16, 17, 18, 19, 20, 21, 22, 23, 24, 25, 26, 27] rfl rfl (by decide) (by decide) (by decide) [12, 13, 14, 15, 16, 17, 18, 19, 20, 21, 22, 23, 24, 25, 26, 27, 0, 1, 2, 3, 4, 5, 6, 7, 8, 9, 10, 11, 28] (by decide) (fun _ => rfl) (fun hg => va_runS (As := [.ref q0, .int (xs ((v23_4 + 1)).toNatClampNeg), .ref o0]) (rest := []) ⟨hx, hb, hml, hown, hts⟩ (c_L_nodesThatAre l D cI cJ q0 n1_0 n1_1 n1_2 n1_3 n1_4 n1_5 n1_6 n1_7 n1_8 n1_9 n1_10 n1_11 n1_12 n1_13 n1_14 o0 xr_23 xt_23 gn_23 gu_23 gb_23 ga_23 lc_23 lk_23 ln_23 lt_23 ll_23 lr_23 tw_23 tn_23 ts_23 tt_23 oo_23 _ (xs ((v23_4 + 1)).toNatClampNeg) hq107 hst) (va_cwS 3 hts gL_law_L_nodesThatAre rfl rfl rfl (by decide +kernel) ⟨Nat.le_of_ble_eq_true rfl, Nat.le_of_ble_eq_true rfl⟩) ⟨PX.blind, fun U hU hW => ⟨rfl, hg U hU hW⟩⟩ rfl rfl hl.1 rfl (lv_room (Nat.le_of_ble_eq_true rfl)) dL_law_769 ⟨(show kc + 1 ≤ 601024 from by omega), (show ks + 6 ≤ 7293034 from by omega)⟩) (fun r107 u H locs hw hP hD hS => ?_)
          obtain ⟨u107_0, rfl⟩ : ∃ z, z = u := ⟨_, rfl⟩
          rw [hw] at he
          try dsimp only at he
          replace hp := hp r107 u107_0 hw
          have hP : va_P D vwCl (W_L cI cJ q0 n1_0 n1_1 n1_2 n1_3 n1_4 n1_5 n1_6 n1_7 n1_8 n1_9 n1_10 n1_11 n1_12 n1_13 n1_14 q8 n2_0 n2_1 n2_2 n2_3 n2_4 n2_5 n2_6 n2_7 n2_8 n2_9 n2_10 o0 xr_23 xt_23 gn_23 gu_23 gb_23 ga_23 lc_23 lk_23 ln_23 lt_23 ll_23 lr_23 tw_23 tn_23 ts_23 tt_23 mr_23 mc_23 me_23 mw_23 mh_23 mn_23 mu_23 ms_23 mt_23 md_23 mz_23 mi_23 mk_23 mo_23 mj_23 ml_23 u107_0) H := hP
          have hD : va_D A (W_L cI cJ q0 n1_0 n1_1 n1_2 n1_3 n1_4 n1_5 n1_6 n1_7 n1_8 n1_9 n1_10 n1_11 n1_12 n1_13 n1_14 q8 n2_0 n2_1 n2_2 n2_3 n2_4 n2_5 n2_6 n2_7 n2_8 n2_9 n2_10 o0 xr_23 xt_23 gn_23 gu_23 gb_23 ga_23 lc_23 lk_23 ln_23 lt_23 ll_23 lr_23 tw_23 tn_23 ts_23 tt_23 mr_23 mc_23 me_23 mw_23 mh_23 mn_23 mu_23 ms_23 mt_23 md_23 mz_23 mi_23 mk_23 mo_23 mj_23 ml_23 u107_0) := hD
          refine lv_istore (lv' := [(5, .int r107), (4, .int v23_4), (3, .ref o0), (2, .ref q8), (1, .ref q0), (0, .ref b0)]) hx hb dL_law_772 hl (by decide) rfl (fun ls hl => ?_)
          refine lv_aload_n hx hb dL_law_774 rfl (lv_at hl 3 rfl) ?_
          refine lv_aload_n hx hb dL_law_775 rfl (lv_at hl 5 rfl) ?_
          refine lv_iload hx hb dL_law_776 (lv_at hl 1 rfl) ?_
          refine lv_iconst (v := 1) hx hb dL_law_778 (by decide) ?_
          refine lv_iadd hx hb dL_law_779 ?_
          have h108 := hp.1
          replace hp := hp.2
          refine va_sld hx hb hX hbl hbA hS h108 dL_law_780 ?_
          have hq109 := hp.1
          replace hp := hp.2
          refine k_calli (S := Int32) (wc := (W_X5 cI q8 n2_0 n2_1 n2_2 n2_3 n2_4 n2_5 n2_6 n2_7 n2_8 n2_9 n2_10 mr_23 mc_23 me_23 mw_23 mh_23 mn_23 mu_23 ms_23 mt_23 md_23 mz_23 mi_23 mk_23 mo_23 mj_23 ml_23)) (wr := (W_O cI cJ q0 n1_0 n1_1 n1_2 n1_3 n1_4 n1_5 n1_6 n1_7 n1_8 n1_9 n1_10 n1_11 n1_12 n1_13 n1_14 o0 xr_23 xt_23 gn_23 gu_23 gb_23 ga_23 lc_23 lk_23 ln_23 lt_23 ll_23 lr_23 tw_23 tn_23 ts_23 tt_23 u107_0)) (w1 := fun u => (W_X5 cI q8 n2_0 n2_1 n2_2 n2_3 n2_4 n2_5 n2_6 n2_7 n2_8 n2_9 n2_10 mr_23 mc_23 me_23 mw_23 u mn_23 mu_23 ms_23 mt_23 md_23 mz_23 mi_23 mk_23 mo_23 mj_23 ml_23)) (fun u => (W_L cI cJ q0 n1_0 n1_1 n1_2 n1_3 n1_4 n1_5 n1_6 n1_7 n1_8 n1_9 n1_10 n1_11 n1_12 n1_13 n1_14 q8 n2_0 n2_1 n2_2 n2_3 n2_4 n2_5 n2_6 n2_7 n2_8 n2_9 n2_10 o0 xr_23 xt_23 gn_23 gu_23 gb_23 ga_23 lc_23 lk_23 ln_23 lt_23 ll_23 lr_23 tw_23 tn_23 ts_23 tt_23 mr_23 mc_23 me_23 mw_23 u mn_23 mu_23 ms_23 mt_23 md_23 mz_23 mi_23 mk_23 mo_23 mj_23 ml_23 u107_0)) hP hK hD hN hS hA [16, 17, 18, 19, 20, 21, 22, 23, 24, 25, 26, 27] [0, 1, 2, 3, 4, 5, 6, 7, 8, 9, 10, 11, 12, 13, 14, 15, 28] rfl rfl (by decide) (by decide) (by decide) [0, 1, 2, 3, 4, 5, 6, 7, 8, 9, 10, 11, 12, 13, 14, 15, 17, 18, 19, 20, 21, 22, 23, 24, 25, 26, 27, 28, 16] (by decide) (fun _ => rfl) (fun hg => va_runV (As := [.int (xs ((v23_4 + 1)).toNatClampNeg)]) (rest := []) ⟨hx, hb, hml, hown, hts⟩ (c_X5_nodesThatAre l D cI q8 n2_0 n2_1 n2_2 n2_3 n2_4 n2_5 n2_6 n2_7 n2_8 n2_9 n2_10 mr_23 mc_23 me_23 mw_23 mh_23 mn_23 mu_23 ms_23 mt_23 md_23 mz_23 mi_23 mk_23 mo_23 mj_23 ml_23 _ (xs ((v23_4 + 1)).toNatClampNeg) hq109) (cwV 1 hts gL_law_X5_nodesThatAre rfl rfl rfl (by decide +kernel) ⟨Nat.le_of_ble_eq_true rfl, Nat.le_of_ble_eq_true rfl⟩) ⟨PW.blind, va_recv hK hP (ci := 5) (q0 := 16) rfl rfl, fun U hU hW => ⟨rfl, hg U hU hW⟩⟩ rfl rfl hl.1 rfl (lv_room (Nat.le_of_ble_eq_true rfl)) dL_law_781 ⟨(show (kc + 1) + 0 ≤ 601024 from by omega), (show (ks + 6) + 0 ≤ 7293034 from by omega)⟩) (fun r109 u H locs hw hP hD hS => ?_)
          obtain ⟨u109_0, rfl⟩ : ∃ z, z = u := ⟨_, rfl⟩
          rw [hw] at he
          try dsimp only at he
          replace hp := hp r109 u109_0 hw
          have hP : va_P D vwCl (W_L cI cJ q0 n1_0 n1_1 n1_2 n1_3 n1_4 n1_5 n1_6 n1_7 n1_8 n1_9 n1_10 n1_11 n1_12 n1_13 n1_14 q8 n2_0 n2_1 n2_2 n2_3 n2_4 n2_5 n2_6 n2_7 n2_8 n2_9 n2_10 o0 xr_23 xt_23 gn_23 gu_23 gb_23 ga_23 lc_23 lk_23 ln_23 lt_23 ll_23 lr_23 tw_23 tn_23 ts_23 tt_23 mr_23 mc_23 me_23 mw_23 u109_0 mn_23 mu_23 ms_23 mt_23 md_23 mz_23 mi_23 mk_23 mo_23 mj_23 ml_23 u107_0) H := hP
          have hD : va_D A (W_L cI cJ q0 n1_0 n1_1 n1_2 n1_3 n1_4 n1_5 n1_6 n1_7 n1_8 n1_9 n1_10 n1_11 n1_12 n1_13 n1_14 q8 n2_0 n2_1 n2_2 n2_3 n2_4 n2_5 n2_6 n2_7 n2_8 n2_9 n2_10 o0 xr_23 xt_23 gn_23 gu_23 gb_23 ga_23 lc_23 lk_23 ln_23 lt_23 ll_23 lr_23 tw_23 tn_23 ts_23 tt_23 mr_23 mc_23 me_23 mw_23 u109_0 mn_23 mu_23 ms_23 mt_23 md_23 mz_23 mi_23 mk_23 mo_23 mj_23 ml_23 u107_0) := hD
          refine lv_istore (lv' := [(6, .int r109), (5, .int r107), (4, .int v23_4), (3, .ref o0), (2, .ref q8), (1, .ref q0), (0, .ref b0)]) hx hb dL_law_784 hl (by decide) rfl (fun ls hl => ?_)
          refine lv_aload_n hx hb dL_law_786 rfl (lv_at hl 4 rfl) ?_
          refine k_calli (S := Unit) (wc := (W_X5 cI q8 n2_0 n2_1 n2_2 n2_3 n2_4 n2_5 n2_6 n2_7 n2_8 n2_9 n2_10 mr_23 mc_23 me_23 mw_23 u109_0 mn_23 mu_23 ms_23 mt_23 md_23 mz_23 mi_23 mk_23 mo_23 mj_23 ml_23)) (wr := (W_O cI cJ q0 n1_0 n1_1 n1_2 n1_3 n1_4 n1_5 n1_6 n1_7 n1_8 n1_9 n1_10 n1_11 n1_12 n1_13 n1_14 o0 xr_23 xt_23 gn_23 gu_23 gb_23 ga_23 lc_23 lk_23 ln_23 lt_23 ll_23 lr_23 tw_23 tn_23 ts_23 tt_23 u107_0)) (w1 := fun u => (W_X5 cI q8 n2_0 n2_1 n2_2 n2_3 n2_4 n2_5 n2_6 n2_7 n2_8 n2_9 n2_10 mr_23 mc_23 me_23 mw_23 u109_0 mn_23 mu_23 ms_23 mt_23 md_23 mz_23 mi_23 mk_23 mo_23 mj_23 ml_23)) (fun u => (W_L cI cJ q0 n1_0 n1_1 n1_2 n1_3 n1_4 n1_5 n1_6 n1_7 n1_8 n1_9 n1_10 n1_11 n1_12 n1_13 n1_14 q8 n2_0 n2_1 n2_2 n2_3 n2_4 n2_5 n2_6 n2_7 n2_8 n2_9 n2_10 o0 xr_23 xt_23 gn_23 gu_23 gb_23 ga_23 lc_23 lk_23 ln_23 lt_23 ll_23 lr_23 tw_23 tn_23 ts_23 tt_23 mr_23 mc_23 me_23 mw_23 u109_0 mn_23 mu_23 ms_23 mt_23 md_23 mz_23 mi_23 mk_23 mo_23 mj_23 ml_23 u107_0)) hP hK hD hN hS hA [16, 17, 18, 19, 20, 21, 22, 23, 24, 25, 26, 27] [0, 1, 2, 3, 4, 5, 6, 7, 8, 9, 10, 11, 12, 13, 14, 15, 28] rfl rfl (by decide) (by decide) (by decide) [0, 1, 2, 3, 4, 5, 6, 7, 8, 9, 10, 11, 12, 13, 14, 15, 17, 18, 19, 20, 21, 22, 23, 24, 25, 26, 27, 28, 16] (by decide) (fun _ => rfl) (fun hg => va_runV (As := []) (rest := []) ⟨hx, hb, hml, hown, hts⟩ (c_X5_thrown l D cI q8 n2_0 n2_1 n2_2 n2_3 n2_4 n2_5 n2_6 n2_7 n2_8 n2_9 n2_10 mr_23 mc_23 me_23 mw_23 u109_0 mn_23 mu_23 ms_23 mt_23 md_23 mz_23 mi_23 mk_23 mo_23 mj_23 ml_23 _ ) (cwV 0 hts gL_law_X5_thrown rfl rfl rfl (by decide +kernel) ⟨Nat.le_of_ble_eq_true rfl, Nat.le_of_ble_eq_true rfl⟩) ⟨PW.blind, va_recv hK hP (ci := 5) (q0 := 16) rfl rfl, fun U hU hW => ⟨rfl, hg U hU hW⟩⟩ rfl rfl hl.1 rfl (lv_room (Nat.le_of_ble_eq_true rfl)) dL_law_787 ⟨(show (kc + 1) + 0 ≤ 601024 from by omega), (show (ks + 6) + 0 ≤ 7293034 from by omega)⟩) (fun r110 u H locs hw hP hD hS => ?_)
          subst hw
          refine lv_iload hx hb dL_law_790 (lv_at hl 1 rfl) ?_
          refine lv_icmp_eq (tgt := 797) hx hb dL_law_792 (by decide) (fun c111 => ?_) (fun c111 => ?_)
          · replace hp := hp.1 c111
            replace he := he.trans (if_pos c111)
            refine lv_iload hx hb dL_law_797 (lv_at hl 1 rfl) ?_
            refine lv_if_ne (tgt := 814) hx hb dL_law_799 (by decide) (fun c112 => ?_) (fun c112 => ?_)
            · replace hp := hp.2 c112
              replace he := he.trans (if_neg c112)
              refine lv_goto (tgt := 1579) hx hb dL_law_814 (by decide) ?_
              refine lv_iinc (v := (v23_4 + 3)) (lv' := [(4, .int (v23_4 + 3)), (6, .int r109), (5, .int r107), (3, .ref o0), (2, .ref q8), (1, .ref q0), (0, .ref b0)]) hx hb dL_law_1579 hl (k := 2) rfl rfl (by decide) rfl (fun ls hl => ?_)
              refine lv_goto (tgt := 23) hx hb dL_law_1582 (by decide) ?_
              refine W.widen (k := kc + 2) (n := ks + 9) (by omega) (by omega) ?_
              exact ih _ _ _ _ _ _ _ _ _ _ _ _ _ _ _ _ _ _ _ _ _ _ _ _ _ _ _ _ _ _ _ _ _ _ (kc + 2) (ks + 9) (by omega) (by omega) hp he _ _ hP hD hS _ (lv_sub hl [0, 3, 4, 5, 6] rfl)
            · replace hp := hp.1 c112
              replace he := he.trans (if_pos c112)
              refine lv_aload_n hx hb dL_law_802 rfl (lv_at hl 3 rfl) ?_
              refine lv_iconst (v := 0) hx hb dL_law_803 (by decide) ?_
              refine va_lald hx hb hK hP 28 1 rfl rfl (by decide) dL_law_804 ?_
              refine lv_iload hx hb dL_law_805 (lv_at hl 0 rfl) ?_
              refine lv_i2l (v := (r109).toInt64) hx hb dL_law_807 rfl ?_
              refine W.lcmp hx hb dL_law_808 ?_
              refine lv_if_eq (tgt := 814) hx hb dL_law_809 (by decide) (fun c114 => ?_) (fun c114 => ?_)
              · replace hp := hp.1 c114
                replace he := he.trans (if_pos c114)
                refine lv_goto (tgt := 1579) hx hb dL_law_814 (by decide) ?_
                refine lv_iinc (v := (v23_4 + 3)) (lv' := [(4, .int (v23_4 + 3)), (6, .int r109), (5, .int r107), (3, .ref o0), (2, .ref q8), (1, .ref q0), (0, .ref b0)]) hx hb dL_law_1579 hl (k := 2) rfl rfl (by decide) rfl (fun ls hl => ?_)
                refine lv_goto (tgt := 23) hx hb dL_law_1582 (by decide) ?_
                refine W.widen (k := kc + 2) (n := ks + 9) (by omega) (by omega) ?_
                exact ih _ _ _ _ _ _ _ _ _ _ _ _ _ _ _ _ _ _ _ _ _ _ _ _ _ _ _ _ _ _ _ _ _ _ (kc + 2) (ks + 9) (by omega) (by omega) hp he _ _ hP hD hS _ (lv_sub hl [0, 3, 4, 5, 6] rfl)
              · replace hp := hp.2 c114
                replace he := he.trans (if_neg c114)
                refine lv_iconst (v := 0) hx hb dL_law_812 (by decide) ?_
                exact absurd he (by decide)
          · replace hp := hp.2 c111
            replace he := he.trans (if_neg c111)
            refine lv_iconst (v := 0) hx hb dL_law_795 (by decide) ?_
            exact absurd he (by decide)
        replace he := he.trans (if_neg s10)
        replace hp := hp.2 s10
        rcases Decidable.em (((xs (v23_4).toNatClampNeg) &&& 31) = 11) with s11 | s11
        · replace he := he.trans (if_pos s11)
          replace hp := hp.1 s11
          refine lv_tableIn (off := 778) (tgt := 817) hx hb dL_law_39 (by rw [s11]; decide) (by rw [s11]; decide) (by rw [s11]; rfl) (by decide) ?_
          refine lv_aload_n hx hb dL_law_817 rfl (lv_at hl 3 rfl) ?_
          refine lv_aload_n hx hb dL_law_818 rfl (lv_at hl 4 rfl) ?_
          refine lv_iload hx hb dL_law_819 (lv_at hl 0 rfl) ?_
          refine lv_iconst (v := 1) hx hb dL_law_821 (by decide) ?_
          refine lv_iadd hx hb dL_law_822 ?_
          have h115 := hp.1
          replace hp := hp.2
          refine va_sld hx hb hX hbl hbA hS h115 dL_law_823 ?_
          refine lv_aload_n hx hb dL_law_824 rfl (lv_at hl 4 rfl) ?_
          refine lv_iload hx hb dL_law_825 (lv_at hl 0 rfl) ?_
          refine lv_iconst (v := 2) hx hb dL_law_827 (by decide) ?_
          refine lv_iadd hx hb dL_law_828 ?_
          have h116 := hp.1
          replace hp := hp.2
          refine va_sld hx hb hX hbl hbA hS h116 dL_law_829 ?_
          refine lv_aload_n hx hb dL_law_830 rfl (lv_at hl 1 rfl) ?_
          have hq117 := hp.1
          replace hp := hp.2
          refine k_ycalli (S := LA) (wc := (W_O cI cJ q0 n1_0 n1_1 n1_2 n1_3 n1_4 n1_5 n1_6 n1_7 n1_8 n1_9 n1_10 n1_11 n1_12 n1_13 n1_14 o0 xr_23 xt_23 gn_23 gu_23 gb_23 ga_23 lc_23 lk_23 ln_23 lt_23 ll_23 lr_23 tw_23 tn_23 ts_23 tt_23 oo_23)) (wr := (W_X5 cI q8 n2_0 n2_1 n2_2 n2_3 n2_4 n2_5 n2_6 n2_7 n2_8 n2_9 n2_10 mr_23 mc_23 me_23 mw_23 mh_23 mn_23 mu_23 ms_23 mt_23 md_23 mz_23 mi_23 mk_23 mo_23 mj_23 ml_23)) (w1 := fun u => (W_O cI cJ q0 n1_0 n1_1 n1_2 n1_3 n1_4 n1_5 n1_6 n1_7 n1_8 n1_9 n1_10 n1_11 n1_12 n1_13 n1_14 o0 xr_23 xt_23 gn_23 gu_23 gb_23 ga_23 lc_23 lk_23 ln_23 lt_23 ll_23 lr_23 tw_23 tn_23 ts_23 tt_23 u)) (fun u => (W_L cI cJ q0 n1_0 n1_1 n1_2 n1_3 n1_4 n1_5 n1_6 n1_7 n1_8 n1_9 n1_10 n1_11 n1_12 n1_13 n1_14 q8 n2_0 n2_1 n2_2 n2_3 n2_4 n2_5 n2_6 n2_7 n2_8 n2_9 n2_10 o0 xr_23 xt_23 gn_23 gu_23 gb_23 ga_23 lc_23 lk_23 ln_23 lt_23 ll_23 lr_23 tw_23 tn_23 ts_23 tt_23 mr_23 mc_23 me_23 mw_23 mh_23 mn_23 mu_23 ms_23 mt_23 md_23 mz_23 mi_23 mk_23 mo_23 mj_23 ml_23 u)) hP hK hD hN hXB hS hA [0, 1, 2, 3, 4, 5, 6, 7, 8, 9, 10, 11, 12, 13, 14, 15, 28] [16, 17, 18, 19, 20, 21, 22, 23, 24, 25, 26, 27] rfl rfl (by decide) (by decide) (by decide) [12, 13, 14, 15, 16, 17, 18, 19, 20, 21, 22, 23, 24, 25, 26, 27, 0, 1, 2, 3, 4, 5, 6, 7, 8, 9, 10, 11, 28] (by decide) (fun _ => rfl) (fun hg => va_runS (As := [.ref q0, .int (xs ((v23_4 + 1)).toNatClampNeg), .int (xs ((v23_4 + 2)).toNatClampNeg), .ref o0]) (rest := []) ⟨hx, hb, hml, hown, hts⟩ (c_L_raises l D cI cJ q0 n1_0 n1_1 n1_2 n1_3 n1_4 n1_5 n1_6 n1_7 n1_8 n1_9 n1_10 n1_11 n1_12 n1_13 n1_14 o0 xr_23 xt_23 gn_23 gu_23 gb_23 ga_23 lc_23 lk_23 ln_23 lt_23 ll_23 lr_23 tw_23 tn_23 ts_23 tt_23 oo_23 _ (xs ((v23_4 + 1)).toNatClampNeg) (xs ((v23_4 + 2)).toNatClampNeg) hq117 hst) (va_cwS 4 hts gL_law_L_raises rfl rfl rfl (by decide +kernel) ⟨Nat.le_of_ble_eq_true rfl, Nat.le_of_ble_eq_true rfl⟩) ⟨PX.blind, fun U hU hW => ⟨rfl, hg U hU hW⟩⟩ rfl rfl hl.1 rfl (lv_room (Nat.le_of_ble_eq_true rfl)) dL_law_831 ⟨(show kc + 2 ≤ 601024 from by omega), (show ks + 12 ≤ 7293034 from by omega)⟩) (fun r117 u H locs hw hP hD hS => ?_)
          obtain ⟨u117_0, rfl⟩ : ∃ z, z = u := ⟨_, rfl⟩
          rw [hw] at he
          try dsimp only at he
          replace hp := hp r117 u117_0 hw
          have hP : va_P D vwCl (W_L cI cJ q0 n1_0 n1_1 n1_2 n1_3 n1_4 n1_5 n1_6 n1_7 n1_8 n1_9 n1_10 n1_11 n1_12 n1_13 n1_14 q8 n2_0 n2_1 n2_2 n2_3 n2_4 n2_5 n2_6 n2_7 n2_8 n2_9 n2_10 o0 xr_23 xt_23 gn_23 gu_23 gb_23 ga_23 lc_23 lk_23 ln_23 lt_23 ll_23 lr_23 tw_23 tn_23 ts_23 tt_23 mr_23 mc_23 me_23 mw_23 mh_23 mn_23 mu_23 ms_23 mt_23 md_23 mz_23 mi_23 mk_23 mo_23 mj_23 ml_23 u117_0) H := hP
          have hD : va_D A (W_L cI cJ q0 n1_0 n1_1 n1_2 n1_3 n1_4 n1_5 n1_6 n1_7 n1_8 n1_9 n1_10 n1_11 n1_12 n1_13 n1_14 q8 n2_0 n2_1 n2_2 n2_3 n2_4 n2_5 n2_6 n2_7 n2_8 n2_9 n2_10 o0 xr_23 xt_23 gn_23 gu_23 gb_23 ga_23 lc_23 lk_23 ln_23 lt_23 ll_23 lr_23 tw_23 tn_23 ts_23 tt_23 mr_23 mc_23 me_23 mw_23 mh_23 mn_23 mu_23 ms_23 mt_23 md_23 mz_23 mi_23 mk_23 mo_23 mj_23 ml_23 u117_0) := hD
          refine lv_istore (lv' := [(5, .int r117), (4, .int v23_4), (3, .ref o0), (2, .ref q8), (1, .ref q0), (0, .ref b0)]) hx hb dL_law_834 hl (by decide) rfl (fun ls hl => ?_)
          refine lv_aload_n hx hb dL_law_836 rfl (lv_at hl 3 rfl) ?_
          refine lv_aload_n hx hb dL_law_837 rfl (lv_at hl 5 rfl) ?_
          refine lv_iload hx hb dL_law_838 (lv_at hl 1 rfl) ?_
          refine lv_iconst (v := 1) hx hb dL_law_840 (by decide) ?_
          refine lv_iadd hx hb dL_law_841 ?_
          have h118 := hp.1
          replace hp := hp.2
          refine va_sld hx hb hX hbl hbA hS h118 dL_law_842 ?_
          refine lv_aload_n hx hb dL_law_843 rfl (lv_at hl 5 rfl) ?_
          refine lv_iload hx hb dL_law_844 (lv_at hl 1 rfl) ?_
          refine lv_iconst (v := 2) hx hb dL_law_846 (by decide) ?_
          refine lv_iadd hx hb dL_law_847 ?_
          have h119 := hp.1
          replace hp := hp.2
          refine va_sld hx hb hX hbl hbA hS h119 dL_law_848 ?_
          have hq120 := hp.1
          replace hp := hp.2
          refine k_calli (S := Int32) (wc := (W_X5 cI q8 n2_0 n2_1 n2_2 n2_3 n2_4 n2_5 n2_6 n2_7 n2_8 n2_9 n2_10 mr_23 mc_23 me_23 mw_23 mh_23 mn_23 mu_23 ms_23 mt_23 md_23 mz_23 mi_23 mk_23 mo_23 mj_23 ml_23)) (wr := (W_O cI cJ q0 n1_0 n1_1 n1_2 n1_3 n1_4 n1_5 n1_6 n1_7 n1_8 n1_9 n1_10 n1_11 n1_12 n1_13 n1_14 o0 xr_23 xt_23 gn_23 gu_23 gb_23 ga_23 lc_23 lk_23 ln_23 lt_23 ll_23 lr_23 tw_23 tn_23 ts_23 tt_23 u117_0)) (w1 := fun u => (W_X5 cI q8 n2_0 n2_1 n2_2 n2_3 n2_4 n2_5 n2_6 n2_7 n2_8 n2_9 n2_10 mr_23 mc_23 me_23 mw_23 u mn_23 mu_23 ms_23 mt_23 md_23 mz_23 mi_23 mk_23 mo_23 mj_23 ml_23)) (fun u => (W_L cI cJ q0 n1_0 n1_1 n1_2 n1_3 n1_4 n1_5 n1_6 n1_7 n1_8 n1_9 n1_10 n1_11 n1_12 n1_13 n1_14 q8 n2_0 n2_1 n2_2 n2_3 n2_4 n2_5 n2_6 n2_7 n2_8 n2_9 n2_10 o0 xr_23 xt_23 gn_23 gu_23 gb_23 ga_23 lc_23 lk_23 ln_23 lt_23 ll_23 lr_23 tw_23 tn_23 ts_23 tt_23 mr_23 mc_23 me_23 mw_23 u mn_23 mu_23 ms_23 mt_23 md_23 mz_23 mi_23 mk_23 mo_23 mj_23 ml_23 u117_0)) hP hK hD hN hS hA [16, 17, 18, 19, 20, 21, 22, 23, 24, 25, 26, 27] [0, 1, 2, 3, 4, 5, 6, 7, 8, 9, 10, 11, 12, 13, 14, 15, 28] rfl rfl (by decide) (by decide) (by decide) [0, 1, 2, 3, 4, 5, 6, 7, 8, 9, 10, 11, 12, 13, 14, 15, 17, 18, 19, 20, 21, 22, 23, 24, 25, 26, 27, 28, 16] (by decide) (fun _ => rfl) (fun hg => va_runV (As := [.int (xs ((v23_4 + 1)).toNatClampNeg), .int (xs ((v23_4 + 2)).toNatClampNeg)]) (rest := []) ⟨hx, hb, hml, hown, hts⟩ (c_X5_raises l D cI q8 n2_0 n2_1 n2_2 n2_3 n2_4 n2_5 n2_6 n2_7 n2_8 n2_9 n2_10 mr_23 mc_23 me_23 mw_23 mh_23 mn_23 mu_23 ms_23 mt_23 md_23 mz_23 mi_23 mk_23 mo_23 mj_23 ml_23 _ (xs ((v23_4 + 1)).toNatClampNeg) (xs ((v23_4 + 2)).toNatClampNeg) hq120) (cwV 2 hts gL_law_X5_raises rfl rfl rfl (by decide +kernel) ⟨Nat.le_of_ble_eq_true rfl, Nat.le_of_ble_eq_true rfl⟩) ⟨PW.blind, va_recv hK hP (ci := 5) (q0 := 16) rfl rfl, fun U hU hW => ⟨rfl, hg U hU hW⟩⟩ rfl rfl hl.1 rfl (lv_room (Nat.le_of_ble_eq_true rfl)) dL_law_849 ⟨(show (kc + 2) + 0 ≤ 601024 from by omega), (show (ks + 12) + 0 ≤ 7293034 from by omega)⟩) (fun r120 u H locs hw hP hD hS => ?_)
          obtain ⟨u120_0, rfl⟩ : ∃ z, z = u := ⟨_, rfl⟩
          rw [hw] at he
          try dsimp only at he
          replace hp := hp r120 u120_0 hw
          have hP : va_P D vwCl (W_L cI cJ q0 n1_0 n1_1 n1_2 n1_3 n1_4 n1_5 n1_6 n1_7 n1_8 n1_9 n1_10 n1_11 n1_12 n1_13 n1_14 q8 n2_0 n2_1 n2_2 n2_3 n2_4 n2_5 n2_6 n2_7 n2_8 n2_9 n2_10 o0 xr_23 xt_23 gn_23 gu_23 gb_23 ga_23 lc_23 lk_23 ln_23 lt_23 ll_23 lr_23 tw_23 tn_23 ts_23 tt_23 mr_23 mc_23 me_23 mw_23 u120_0 mn_23 mu_23 ms_23 mt_23 md_23 mz_23 mi_23 mk_23 mo_23 mj_23 ml_23 u117_0) H := hP
          have hD : va_D A (W_L cI cJ q0 n1_0 n1_1 n1_2 n1_3 n1_4 n1_5 n1_6 n1_7 n1_8 n1_9 n1_10 n1_11 n1_12 n1_13 n1_14 q8 n2_0 n2_1 n2_2 n2_3 n2_4 n2_5 n2_6 n2_7 n2_8 n2_9 n2_10 o0 xr_23 xt_23 gn_23 gu_23 gb_23 ga_23 lc_23 lk_23 ln_23 lt_23 ll_23 lr_23 tw_23 tn_23 ts_23 tt_23 mr_23 mc_23 me_23 mw_23 u120_0 mn_23 mu_23 ms_23 mt_23 md_23 mz_23 mi_23 mk_23 mo_23 mj_23 ml_23 u117_0) := hD
          refine lv_istore (lv' := [(6, .int r120), (5, .int r117), (4, .int v23_4), (3, .ref o0), (2, .ref q8), (1, .ref q0), (0, .ref b0)]) hx hb dL_law_852 hl (by decide) rfl (fun ls hl => ?_)
          refine lv_aload_n hx hb dL_law_854 rfl (lv_at hl 4 rfl) ?_
          refine k_calli (S := Unit) (wc := (W_X5 cI q8 n2_0 n2_1 n2_2 n2_3 n2_4 n2_5 n2_6 n2_7 n2_8 n2_9 n2_10 mr_23 mc_23 me_23 mw_23 u120_0 mn_23 mu_23 ms_23 mt_23 md_23 mz_23 mi_23 mk_23 mo_23 mj_23 ml_23)) (wr := (W_O cI cJ q0 n1_0 n1_1 n1_2 n1_3 n1_4 n1_5 n1_6 n1_7 n1_8 n1_9 n1_10 n1_11 n1_12 n1_13 n1_14 o0 xr_23 xt_23 gn_23 gu_23 gb_23 ga_23 lc_23 lk_23 ln_23 lt_23 ll_23 lr_23 tw_23 tn_23 ts_23 tt_23 u117_0)) (w1 := fun u => (W_X5 cI q8 n2_0 n2_1 n2_2 n2_3 n2_4 n2_5 n2_6 n2_7 n2_8 n2_9 n2_10 mr_23 mc_23 me_23 mw_23 u120_0 mn_23 mu_23 ms_23 mt_23 md_23 mz_23 mi_23 mk_23 mo_23 mj_23 ml_23)) (fun u => (W_L cI cJ q0 n1_0 n1_1 n1_2 n1_3 n1_4 n1_5 n1_6 n1_7 n1_8 n1_9 n1_10 n1_11 n1_12 n1_13 n1_14 q8 n2_0 n2_1 n2_2 n2_3 n2_4 n2_5 n2_6 n2_7 n2_8 n2_9 n2_10 o0 xr_23 xt_23 gn_23 gu_23 gb_23 ga_23 lc_23 lk_23 ln_23 lt_23 ll_23 lr_23 tw_23 tn_23 ts_23 tt_23 mr_23 mc_23 me_23 mw_23 u120_0 mn_23 mu_23 ms_23 mt_23 md_23 mz_23 mi_23 mk_23 mo_23 mj_23 ml_23 u117_0)) hP hK hD hN hS hA [16, 17, 18, 19, 20, 21, 22, 23, 24, 25, 26, 27] [0, 1, 2, 3, 4, 5, 6, 7, 8, 9, 10, 11, 12, 13, 14, 15, 28] rfl rfl (by decide) (by decide) (by decide) [0, 1, 2, 3, 4, 5, 6, 7, 8, 9, 10, 11, 12, 13, 14, 15, 17, 18, 19, 20, 21, 22, 23, 24, 25, 26, 27, 28, 16] (by decide) (fun _ => rfl) (fun hg => va_runV (As := []) (rest := []) ⟨hx, hb, hml, hown, hts⟩ (c_X5_thrown l D cI q8 n2_0 n2_1 n2_2 n2_3 n2_4 n2_5 n2_6 n2_7 n2_8 n2_9 n2_10 mr_23 mc_23 me_23 mw_23 u120_0 mn_23 mu_23 ms_23 mt_23 md_23 mz_23 mi_23 mk_23 mo_23 mj_23 ml_23 _ ) (cwV 0 hts gL_law_X5_thrown rfl rfl rfl (by decide +kernel) ⟨Nat.le_of_ble_eq_true rfl, Nat.le_of_ble_eq_true rfl⟩) ⟨PW.blind, va_recv hK hP (ci := 5) (q0 := 16) rfl rfl, fun U hU hW => ⟨rfl, hg U hU hW⟩⟩ rfl rfl hl.1 rfl (lv_room (Nat.le_of_ble_eq_true rfl)) dL_law_855 ⟨(show (kc + 2) + 0 ≤ 601024 from by omega), (show (ks + 12) + 0 ≤ 7293034 from by omega)⟩) (fun r121 u H locs hw hP hD hS => ?_)
          subst hw
          refine lv_iload hx hb dL_law_858 (lv_at hl 1 rfl) ?_
          refine lv_icmp_eq (tgt := 865) hx hb dL_law_860 (by decide) (fun c122 => ?_) (fun c122 => ?_)
          · replace hp := hp.1 c122
            replace he := he.trans (if_pos c122)
            refine lv_iload hx hb dL_law_865 (lv_at hl 1 rfl) ?_
            refine lv_if_ne (tgt := 882) hx hb dL_law_867 (by decide) (fun c123 => ?_) (fun c123 => ?_)
            · replace hp := hp.2 c123
              replace he := he.trans (if_neg c123)
              refine lv_goto (tgt := 1579) hx hb dL_law_882 (by decide) ?_
              refine lv_iinc (v := (v23_4 + 3)) (lv' := [(4, .int (v23_4 + 3)), (6, .int r120), (5, .int r117), (3, .ref o0), (2, .ref q8), (1, .ref q0), (0, .ref b0)]) hx hb dL_law_1579 hl (k := 2) rfl rfl (by decide) rfl (fun ls hl => ?_)
              refine lv_goto (tgt := 23) hx hb dL_law_1582 (by decide) ?_
              refine W.widen (k := kc + 2) (n := ks + 9) (by omega) (by omega) ?_
              exact ih _ _ _ _ _ _ _ _ _ _ _ _ _ _ _ _ _ _ _ _ _ _ _ _ _ _ _ _ _ _ _ _ _ _ (kc + 2) (ks + 9) (by omega) (by omega) hp he _ _ hP hD hS _ (lv_sub hl [0, 3, 4, 5, 6] rfl)
            · replace hp := hp.1 c123
              replace he := he.trans (if_pos c123)
              refine lv_aload_n hx hb dL_law_870 rfl (lv_at hl 3 rfl) ?_
              refine lv_iconst (v := 0) hx hb dL_law_871 (by decide) ?_
              refine va_lald hx hb hK hP 28 1 rfl rfl (by decide) dL_law_872 ?_
              refine lv_iload hx hb dL_law_873 (lv_at hl 0 rfl) ?_
              refine lv_i2l (v := (r120).toInt64) hx hb dL_law_875 rfl ?_
              refine W.lcmp hx hb dL_law_876 ?_
              refine lv_if_eq (tgt := 882) hx hb dL_law_877 (by decide) (fun c125 => ?_) (fun c125 => ?_)
              · replace hp := hp.1 c125
                replace he := he.trans (if_pos c125)
                refine lv_goto (tgt := 1579) hx hb dL_law_882 (by decide) ?_
                refine lv_iinc (v := (v23_4 + 3)) (lv' := [(4, .int (v23_4 + 3)), (6, .int r120), (5, .int r117), (3, .ref o0), (2, .ref q8), (1, .ref q0), (0, .ref b0)]) hx hb dL_law_1579 hl (k := 2) rfl rfl (by decide) rfl (fun ls hl => ?_)
                refine lv_goto (tgt := 23) hx hb dL_law_1582 (by decide) ?_
                refine W.widen (k := kc + 2) (n := ks + 9) (by omega) (by omega) ?_
                exact ih _ _ _ _ _ _ _ _ _ _ _ _ _ _ _ _ _ _ _ _ _ _ _ _ _ _ _ _ _ _ _ _ _ _ (kc + 2) (ks + 9) (by omega) (by omega) hp he _ _ hP hD hS _ (lv_sub hl [0, 3, 4, 5, 6] rfl)
              · replace hp := hp.2 c125
                replace he := he.trans (if_neg c125)
                refine lv_iconst (v := 0) hx hb dL_law_880 (by decide) ?_
                exact absurd he (by decide)
          · replace hp := hp.2 c122
            replace he := he.trans (if_neg c122)
            refine lv_iconst (v := 0) hx hb dL_law_863 (by decide) ?_
            exact absurd he (by decide)
        replace he := he.trans (if_neg s11)
        replace hp := hp.2 s11
        rcases Decidable.em (((xs (v23_4).toNatClampNeg) &&& 31) = 12) with s12 | s12
        · replace he := he.trans (if_pos s12)
          replace hp := hp.1 s12
          refine lv_tableIn (off := 846) (tgt := 885) hx hb dL_law_39 (by rw [s12]; decide) (by rw [s12]; decide) (by rw [s12]; rfl) (by decide) ?_
          refine lv_aload_n hx hb dL_law_885 rfl (lv_at hl 3 rfl) ?_
          refine k_calli (S := Unit) (wc := (W_X4 cI q0 n1_0 n1_1 n1_2 n1_3 n1_4 n1_5 n1_6 n1_7 n1_8 n1_9 n1_10 n1_11 n1_12 n1_13 n1_14 xr_23 xt_23 gn_23 gu_23 gb_23 ga_23 lc_23 lk_23 ln_23 lt_23 ll_23 lr_23 tw_23 tn_23 ts_23 tt_23)) (wr := ((W_X5 cI q8 n2_0 n2_1 n2_2 n2_3 n2_4 n2_5 n2_6 n2_7 n2_8 n2_9 n2_10 mr_23 mc_23 me_23 mw_23 mh_23 mn_23 mu_23 ms_23 mt_23 md_23 mz_23 mi_23 mk_23 mo_23 mj_23 ml_23) ++ [(o0, .inl (cJ, 1, .inr (.inl oo_23)))])) (w1 := fun u => (W_X4 cI q0 n1_0 n1_1 n1_2 n1_3 n1_4 n1_5 n1_6 n1_7 n1_8 n1_9 n1_10 n1_11 n1_12 n1_13 n1_14 xr_23 xt_23 gn_23 gu_23 gb_23 ga_23 lc_23 lk_23 ln_23 lt_23 ll_23 lr_23 tw_23 tn_23 ts_23 tt_23)) (fun u => (W_L cI cJ q0 n1_0 n1_1 n1_2 n1_3 n1_4 n1_5 n1_6 n1_7 n1_8 n1_9 n1_10 n1_11 n1_12 n1_13 n1_14 q8 n2_0 n2_1 n2_2 n2_3 n2_4 n2_5 n2_6 n2_7 n2_8 n2_9 n2_10 o0 xr_23 xt_23 gn_23 gu_23 gb_23 ga_23 lc_23 lk_23 ln_23 lt_23 ll_23 lr_23 tw_23 tn_23 ts_23 tt_23 mr_23 mc_23 me_23 mw_23 mh_23 mn_23 mu_23 ms_23 mt_23 md_23 mz_23 mi_23 mk_23 mo_23 mj_23 ml_23 oo_23)) hP hK hD hN hS hA [0, 1, 2, 3, 4, 5, 6, 7, 8, 9, 10, 11, 12, 13, 14, 15] [16, 17, 18, 19, 20, 21, 22, 23, 24, 25, 26, 27, 28] rfl rfl (by decide) (by decide) (by decide) [13, 14, 15, 16, 17, 18, 19, 20, 21, 22, 23, 24, 25, 26, 27, 28, 0, 1, 2, 3, 4, 5, 6, 7, 8, 9, 10, 11, 12] (by decide) (fun _ => rfl) (fun hg => va_runV (As := []) (rest := []) ⟨hx, hb, hml, hown, hts⟩ (c_X4_events l D cI q0 n1_0 n1_1 n1_2 n1_3 n1_4 n1_5 n1_6 n1_7 n1_8 n1_9 n1_10 n1_11 n1_12 n1_13 n1_14 xr_23 xt_23 gn_23 gu_23 gb_23 ga_23 lc_23 lk_23 ln_23 lt_23 ll_23 lr_23 tw_23 tn_23 ts_23 tt_23 _ ) (cwV 0 hts gL_law_X4_events rfl rfl rfl (by decide +kernel) ⟨Nat.le_of_ble_eq_true rfl, Nat.le_of_ble_eq_true rfl⟩) ⟨PW.blind, va_recv hK hP (ci := 4) (q0 := 0) rfl rfl, fun U hU hW => ⟨rfl, hg U hU hW⟩⟩ rfl rfl hl.1 rfl (lv_room (Nat.le_of_ble_eq_true rfl)) dL_law_886 ⟨(show kc + 0 ≤ 601024 from by omega), (show ks + 0 ≤ 7293034 from by omega)⟩) (fun r126 u H locs hw hP hD hS => ?_)
          subst hw
          refine lv_aload_n hx hb dL_law_889 rfl (lv_at hl 2 rfl) ?_
          refine k_calli (S := Int32) (wc := (W_X5 cI q8 n2_0 n2_1 n2_2 n2_3 n2_4 n2_5 n2_6 n2_7 n2_8 n2_9 n2_10 mr_23 mc_23 me_23 mw_23 mh_23 mn_23 mu_23 ms_23 mt_23 md_23 mz_23 mi_23 mk_23 mo_23 mj_23 ml_23)) (wr := (W_O cI cJ q0 n1_0 n1_1 n1_2 n1_3 n1_4 n1_5 n1_6 n1_7 n1_8 n1_9 n1_10 n1_11 n1_12 n1_13 n1_14 o0 xr_23 xt_23 gn_23 gu_23 gb_23 ga_23 lc_23 lk_23 ln_23 lt_23 ll_23 lr_23 tw_23 tn_23 ts_23 tt_23 oo_23)) (w1 := fun u => (W_X5 cI q8 n2_0 n2_1 n2_2 n2_3 n2_4 n2_5 n2_6 n2_7 n2_8 n2_9 n2_10 mr_23 mc_23 me_23 mw_23 u mn_23 mu_23 ms_23 mt_23 md_23 mz_23 mi_23 mk_23 mo_23 mj_23 ml_23)) (fun u => (W_L cI cJ q0 n1_0 n1_1 n1_2 n1_3 n1_4 n1_5 n1_6 n1_7 n1_8 n1_9 n1_10 n1_11 n1_12 n1_13 n1_14 q8 n2_0 n2_1 n2_2 n2_3 n2_4 n2_5 n2_6 n2_7 n2_8 n2_9 n2_10 o0 xr_23 xt_23 gn_23 gu_23 gb_23 ga_23 lc_23 lk_23 ln_23 lt_23 ll_23 lr_23 tw_23 tn_23 ts_23 tt_23 mr_23 mc_23 me_23 mw_23 u mn_23 mu_23 ms_23 mt_23 md_23 mz_23 mi_23 mk_23 mo_23 mj_23 ml_23 oo_23)) hP hK hD hN hS hA [16, 17, 18, 19, 20, 21, 22, 23, 24, 25, 26, 27] [0, 1, 2, 3, 4, 5, 6, 7, 8, 9, 10, 11, 12, 13, 14, 15, 28] rfl rfl (by decide) (by decide) (by decide) [0, 1, 2, 3, 4, 5, 6, 7, 8, 9, 10, 11, 12, 13, 14, 15, 17, 18, 19, 20, 21, 22, 23, 24, 25, 26, 27, 28, 16] (by decide) (fun _ => rfl) (fun hg => va_runV (As := []) (rest := [.int (f_X4_events lc_23)]) ⟨hx, hb, hml, hown, hts⟩ (c_X5_events l D cI q8 n2_0 n2_1 n2_2 n2_3 n2_4 n2_5 n2_6 n2_7 n2_8 n2_9 n2_10 mr_23 mc_23 me_23 mw_23 mh_23 mn_23 mu_23 ms_23 mt_23 md_23 mz_23 mi_23 mk_23 mo_23 mj_23 ml_23 _ ) (cwV 0 hts gL_law_X5_events rfl rfl rfl (by decide +kernel) ⟨Nat.le_of_ble_eq_true rfl, Nat.le_of_ble_eq_true rfl⟩) ⟨PW.blind, va_recv hK hP (ci := 5) (q0 := 16) rfl rfl, fun U hU hW => ⟨rfl, hg U hU hW⟩⟩ rfl rfl hl.1 rfl (lv_room (Nat.le_of_ble_eq_true rfl)) dL_law_890 ⟨(show kc + 0 ≤ 601024 from by omega), (show ks + 0 ≤ 7293034 from by omega)⟩) (fun r127 u H locs hw hP hD hS => ?_)
          obtain ⟨u127_0, rfl⟩ : ∃ z, z = u := ⟨_, rfl⟩
          rw [hw] at he
          try dsimp only at he
          replace hp := hp r127 u127_0 hw
          have hP : va_P D vwCl (W_L cI cJ q0 n1_0 n1_1 n1_2 n1_3 n1_4 n1_5 n1_6 n1_7 n1_8 n1_9 n1_10 n1_11 n1_12 n1_13 n1_14 q8 n2_0 n2_1 n2_2 n2_3 n2_4 n2_5 n2_6 n2_7 n2_8 n2_9 n2_10 o0 xr_23 xt_23 gn_23 gu_23 gb_23 ga_23 lc_23 lk_23 ln_23 lt_23 ll_23 lr_23 tw_23 tn_23 ts_23 tt_23 mr_23 mc_23 me_23 mw_23 u127_0 mn_23 mu_23 ms_23 mt_23 md_23 mz_23 mi_23 mk_23 mo_23 mj_23 ml_23 oo_23) H := hP
          have hD : va_D A (W_L cI cJ q0 n1_0 n1_1 n1_2 n1_3 n1_4 n1_5 n1_6 n1_7 n1_8 n1_9 n1_10 n1_11 n1_12 n1_13 n1_14 q8 n2_0 n2_1 n2_2 n2_3 n2_4 n2_5 n2_6 n2_7 n2_8 n2_9 n2_10 o0 xr_23 xt_23 gn_23 gu_23 gb_23 ga_23 lc_23 lk_23 ln_23 lt_23 ll_23 lr_23 tw_23 tn_23 ts_23 tt_23 mr_23 mc_23 me_23 mw_23 u127_0 mn_23 mu_23 ms_23 mt_23 md_23 mz_23 mi_23 mk_23 mo_23 mj_23 ml_23 oo_23) := hD
          refine lv_icmp_eq (tgt := 1579) hx hb dL_law_893 (by decide) (fun c128 => ?_) (fun c128 => ?_)
          · replace hp := hp.1 c128
            replace he := he.trans (if_pos c128)
            refine lv_iinc (v := (v23_4 + 3)) (lv' := [(4, .int (v23_4 + 3)), (3, .ref o0), (2, .ref q8), (1, .ref q0), (0, .ref b0)]) hx hb dL_law_1579 hl (k := 0) rfl rfl (by decide) rfl (fun ls hl => ?_)
            refine lv_goto (tgt := 23) hx hb dL_law_1582 (by decide) ?_
            refine W.widen (k := kc + 2) (n := ks + 9) (by omega) (by omega) ?_
            exact ih _ _ _ _ _ _ _ _ _ _ _ _ _ _ _ _ _ _ _ _ _ _ _ _ _ _ _ _ _ _ _ _ _ _ (kc + 2) (ks + 9) (by omega) (by omega) hp he _ _ hP hD hS _ (lv_sub hl [0, 1, 2, 3, 4] rfl)
          · replace hp := hp.2 c128
            replace he := he.trans (if_neg c128)
            refine lv_iconst (v := 0) hx hb dL_law_896 (by decide) ?_
            exact absurd he (by decide)
        replace he := he.trans (if_neg s12)
        replace hp := hp.2 s12
        rcases Decidable.em (((xs (v23_4).toNatClampNeg) &&& 31) = 13) with s13 | s13
        · replace he := he.trans (if_pos s13)
          replace hp := hp.1 s13
          refine lv_tableIn (off := 859) (tgt := 898) hx hb dL_law_39 (by rw [s13]; decide) (by rw [s13]; decide) (by rw [s13]; rfl) (by decide) ?_
          refine lv_aload_n hx hb dL_law_898 rfl (lv_at hl 3 rfl) ?_
          refine lv_aload_n hx hb dL_law_899 rfl (lv_at hl 4 rfl) ?_
          refine lv_iload hx hb dL_law_900 (lv_at hl 0 rfl) ?_
          refine lv_iconst (v := 1) hx hb dL_law_902 (by decide) ?_
          refine lv_iadd hx hb dL_law_903 ?_
          have h129 := hp.1
          replace hp := hp.2
          refine va_sld hx hb hX hbl hbA hS h129 dL_law_904 ?_
          refine lv_aload_n hx hb dL_law_905 rfl (lv_at hl 1 rfl) ?_
          have hq130 := hp.1
          replace hp := hp.2
          refine k_ycalli (S := LA) (wc := (W_O cI cJ q0 n1_0 n1_1 n1_2 n1_3 n1_4 n1_5 n1_6 n1_7 n1_8 n1_9 n1_10 n1_11 n1_12 n1_13 n1_14 o0 xr_23 xt_23 gn_23 gu_23 gb_23 ga_23 lc_23 lk_23 ln_23 lt_23 ll_23 lr_23 tw_23 tn_23 ts_23 tt_23 oo_23)) (wr := (W_X5 cI q8 n2_0 n2_1 n2_2 n2_3 n2_4 n2_5 n2_6 n2_7 n2_8 n2_9 n2_10 mr_23 mc_23 me_23 mw_23 mh_23 mn_23 mu_23 ms_23 mt_23 md_23 mz_23 mi_23 mk_23 mo_23 mj_23 ml_23)) (w1 := fun u => (W_O cI cJ q0 n1_0 n1_1 n1_2 n1_3 n1_4 n1_5 n1_6 n1_7 n1_8 n1_9 n1_10 n1_11 n1_12 n1_13 n1_14 o0 xr_23 xt_23 gn_23 gu_23 gb_23 ga_23 lc_23 lk_23 ln_23 lt_23 ll_23 lr_23 tw_23 tn_23 ts_23 tt_23 u)) (fun u => (W_L cI cJ q0 n1_0 n1_1 n1_2 n1_3 n1_4 n1_5 n1_6 n1_7 n1_8 n1_9 n1_10 n1_11 n1_12 n1_13 n1_14 q8 n2_0 n2_1 n2_2 n2_3 n2_4 n2_5 n2_6 n2_7 n2_8 n2_9 n2_10 o0 xr_23 xt_23 gn_23 gu_23 gb_23 ga_23 lc_23 lk_23 ln_23 lt_23 ll_23 lr_23 tw_23 tn_23 ts_23 tt_23 mr_23 mc_23 me_23 mw_23 mh_23 mn_23 mu_23 ms_23 mt_23 md_23 mz_23 mi_23 mk_23 mo_23 mj_23 ml_23 u)) hP hK hD hN hXB hS hA [0, 1, 2, 3, 4, 5, 6, 7, 8, 9, 10, 11, 12, 13, 14, 15, 28] [16, 17, 18, 19, 20, 21, 22, 23, 24, 25, 26, 27] rfl rfl (by decide) (by decide) (by decide) [12, 13, 14, 15, 16, 17, 18, 19, 20, 21, 22, 23, 24, 25, 26, 27, 0, 1, 2, 3, 4, 5, 6, 7, 8, 9, 10, 11, 28] (by decide) (fun _ => rfl) (fun hg => va_runS (As := [.ref q0, .int (xs ((v23_4 + 1)).toNatClampNeg), .ref o0]) (rest := []) ⟨hx, hb, hml, hown, hts⟩ (c_L_eventKind l D cI cJ q0 n1_0 n1_1 n1_2 n1_3 n1_4 n1_5 n1_6 n1_7 n1_8 n1_9 n1_10 n1_11 n1_12 n1_13 n1_14 o0 xr_23 xt_23 gn_23 gu_23 gb_23 ga_23 lc_23 lk_23 ln_23 lt_23 ll_23 lr_23 tw_23 tn_23 ts_23 tt_23 oo_23 _ (xs ((v23_4 + 1)).toNatClampNeg) hq130 hst) (va_cwS 3 hts gL_law_L_eventKind rfl rfl rfl (by decide +kernel) ⟨Nat.le_of_ble_eq_true rfl, Nat.le_of_ble_eq_true rfl⟩) ⟨PX.blind, fun U hU hW => ⟨rfl, hg U hU hW⟩⟩ rfl rfl hl.1 rfl (lv_room (Nat.le_of_ble_eq_true rfl)) dL_law_906 ⟨(show kc + 1 ≤ 601024 from by omega), (show ks + 6 ≤ 7293034 from by omega)⟩) (fun r130 u H locs hw hP hD hS => ?_)
          obtain ⟨u130_0, rfl⟩ : ∃ z, z = u := ⟨_, rfl⟩
          rw [hw] at he
          try dsimp only at he
          replace hp := hp r130 u130_0 hw
          have hP : va_P D vwCl (W_L cI cJ q0 n1_0 n1_1 n1_2 n1_3 n1_4 n1_5 n1_6 n1_7 n1_8 n1_9 n1_10 n1_11 n1_12 n1_13 n1_14 q8 n2_0 n2_1 n2_2 n2_3 n2_4 n2_5 n2_6 n2_7 n2_8 n2_9 n2_10 o0 xr_23 xt_23 gn_23 gu_23 gb_23 ga_23 lc_23 lk_23 ln_23 lt_23 ll_23 lr_23 tw_23 tn_23 ts_23 tt_23 mr_23 mc_23 me_23 mw_23 mh_23 mn_23 mu_23 ms_23 mt_23 md_23 mz_23 mi_23 mk_23 mo_23 mj_23 ml_23 u130_0) H := hP
          have hD : va_D A (W_L cI cJ q0 n1_0 n1_1 n1_2 n1_3 n1_4 n1_5 n1_6 n1_7 n1_8 n1_9 n1_10 n1_11 n1_12 n1_13 n1_14 q8 n2_0 n2_1 n2_2 n2_3 n2_4 n2_5 n2_6 n2_7 n2_8 n2_9 n2_10 o0 xr_23 xt_23 gn_23 gu_23 gb_23 ga_23 lc_23 lk_23 ln_23 lt_23 ll_23 lr_23 tw_23 tn_23 ts_23 tt_23 mr_23 mc_23 me_23 mw_23 mh_23 mn_23 mu_23 ms_23 mt_23 md_23 mz_23 mi_23 mk_23 mo_23 mj_23 ml_23 u130_0) := hD
          refine lv_istore (lv' := [(5, .int r130), (4, .int v23_4), (3, .ref o0), (2, .ref q8), (1, .ref q0), (0, .ref b0)]) hx hb dL_law_909 hl (by decide) rfl (fun ls hl => ?_)
          refine lv_aload_n hx hb dL_law_911 rfl (lv_at hl 3 rfl) ?_
          refine lv_aload_n hx hb dL_law_912 rfl (lv_at hl 5 rfl) ?_
          refine lv_iload hx hb dL_law_913 (lv_at hl 1 rfl) ?_
          refine lv_iconst (v := 1) hx hb dL_law_915 (by decide) ?_
          refine lv_iadd hx hb dL_law_916 ?_
          have h131 := hp.1
          replace hp := hp.2
          refine va_sld hx hb hX hbl hbA hS h131 dL_law_917 ?_
          have hq132 := hp.1
          replace hp := hp.2
          refine k_calli (S := Int32) (wc := (W_X5 cI q8 n2_0 n2_1 n2_2 n2_3 n2_4 n2_5 n2_6 n2_7 n2_8 n2_9 n2_10 mr_23 mc_23 me_23 mw_23 mh_23 mn_23 mu_23 ms_23 mt_23 md_23 mz_23 mi_23 mk_23 mo_23 mj_23 ml_23)) (wr := (W_O cI cJ q0 n1_0 n1_1 n1_2 n1_3 n1_4 n1_5 n1_6 n1_7 n1_8 n1_9 n1_10 n1_11 n1_12 n1_13 n1_14 o0 xr_23 xt_23 gn_23 gu_23 gb_23 ga_23 lc_23 lk_23 ln_23 lt_23 ll_23 lr_23 tw_23 tn_23 ts_23 tt_23 u130_0)) (w1 := fun u => (W_X5 cI q8 n2_0 n2_1 n2_2 n2_3 n2_4 n2_5 n2_6 n2_7 n2_8 n2_9 n2_10 mr_23 mc_23 me_23 mw_23 u mn_23 mu_23 ms_23 mt_23 md_23 mz_23 mi_23 mk_23 mo_23 mj_23 ml_23)) (fun u => (W_L cI cJ q0 n1_0 n1_1 n1_2 n1_3 n1_4 n1_5 n1_6 n1_7 n1_8 n1_9 n1_10 n1_11 n1_12 n1_13 n1_14 q8 n2_0 n2_1 n2_2 n2_3 n2_4 n2_5 n2_6 n2_7 n2_8 n2_9 n2_10 o0 xr_23 xt_23 gn_23 gu_23 gb_23 ga_23 lc_23 lk_23 ln_23 lt_23 ll_23 lr_23 tw_23 tn_23 ts_23 tt_23 mr_23 mc_23 me_23 mw_23 u mn_23 mu_23 ms_23 mt_23 md_23 mz_23 mi_23 mk_23 mo_23 mj_23 ml_23 u130_0)) hP hK hD hN hS hA [16, 17, 18, 19, 20, 21, 22, 23, 24, 25, 26, 27] [0, 1, 2, 3, 4, 5, 6, 7, 8, 9, 10, 11, 12, 13, 14, 15, 28] rfl rfl (by decide) (by decide) (by decide) [0, 1, 2, 3, 4, 5, 6, 7, 8, 9, 10, 11, 12, 13, 14, 15, 17, 18, 19, 20, 21, 22, 23, 24, 25, 26, 27, 28, 16] (by decide) (fun _ => rfl) (fun hg => va_runV (As := [.int (xs ((v23_4 + 1)).toNatClampNeg)]) (rest := []) ⟨hx, hb, hml, hown, hts⟩ (c_X5_eventKind l D cI q8 n2_0 n2_1 n2_2 n2_3 n2_4 n2_5 n2_6 n2_7 n2_8 n2_9 n2_10 mr_23 mc_23 me_23 mw_23 mh_23 mn_23 mu_23 ms_23 mt_23 md_23 mz_23 mi_23 mk_23 mo_23 mj_23 ml_23 _ (xs ((v23_4 + 1)).toNatClampNeg) hq132) (cwV 1 hts gL_law_X5_eventKind rfl rfl rfl (by decide +kernel) ⟨Nat.le_of_ble_eq_true rfl, Nat.le_of_ble_eq_true rfl⟩) ⟨PW.blind, va_recv hK hP (ci := 5) (q0 := 16) rfl rfl, fun U hU hW => ⟨rfl, hg U hU hW⟩⟩ rfl rfl hl.1 rfl (lv_room (Nat.le_of_ble_eq_true rfl)) dL_law_918 ⟨(show (kc + 1) + 0 ≤ 601024 from by omega), (show (ks + 6) + 0 ≤ 7293034 from by omega)⟩) (fun r132 u H locs hw hP hD hS => ?_)
          obtain ⟨u132_0, rfl⟩ : ∃ z, z = u := ⟨_, rfl⟩
          rw [hw] at he
          try dsimp only at he
          replace hp := hp r132 u132_0 hw
          have hP : va_P D vwCl (W_L cI cJ q0 n1_0 n1_1 n1_2 n1_3 n1_4 n1_5 n1_6 n1_7 n1_8 n1_9 n1_10 n1_11 n1_12 n1_13 n1_14 q8 n2_0 n2_1 n2_2 n2_3 n2_4 n2_5 n2_6 n2_7 n2_8 n2_9 n2_10 o0 xr_23 xt_23 gn_23 gu_23 gb_23 ga_23 lc_23 lk_23 ln_23 lt_23 ll_23 lr_23 tw_23 tn_23 ts_23 tt_23 mr_23 mc_23 me_23 mw_23 u132_0 mn_23 mu_23 ms_23 mt_23 md_23 mz_23 mi_23 mk_23 mo_23 mj_23 ml_23 u130_0) H := hP
          have hD : va_D A (W_L cI cJ q0 n1_0 n1_1 n1_2 n1_3 n1_4 n1_5 n1_6 n1_7 n1_8 n1_9 n1_10 n1_11 n1_12 n1_13 n1_14 q8 n2_0 n2_1 n2_2 n2_3 n2_4 n2_5 n2_6 n2_7 n2_8 n2_9 n2_10 o0 xr_23 xt_23 gn_23 gu_23 gb_23 ga_23 lc_23 lk_23 ln_23 lt_23 ll_23 lr_23 tw_23 tn_23 ts_23 tt_23 mr_23 mc_23 me_23 mw_23 u132_0 mn_23 mu_23 ms_23 mt_23 md_23 mz_23 mi_23 mk_23 mo_23 mj_23 ml_23 u130_0) := hD
          refine lv_istore (lv' := [(6, .int r132), (5, .int r130), (4, .int v23_4), (3, .ref o0), (2, .ref q8), (1, .ref q0), (0, .ref b0)]) hx hb dL_law_921 hl (by decide) rfl (fun ls hl => ?_)
          refine lv_aload_n hx hb dL_law_923 rfl (lv_at hl 4 rfl) ?_
          refine k_calli (S := Unit) (wc := (W_X5 cI q8 n2_0 n2_1 n2_2 n2_3 n2_4 n2_5 n2_6 n2_7 n2_8 n2_9 n2_10 mr_23 mc_23 me_23 mw_23 u132_0 mn_23 mu_23 ms_23 mt_23 md_23 mz_23 mi_23 mk_23 mo_23 mj_23 ml_23)) (wr := (W_O cI cJ q0 n1_0 n1_1 n1_2 n1_3 n1_4 n1_5 n1_6 n1_7 n1_8 n1_9 n1_10 n1_11 n1_12 n1_13 n1_14 o0 xr_23 xt_23 gn_23 gu_23 gb_23 ga_23 lc_23 lk_23 ln_23 lt_23 ll_23 lr_23 tw_23 tn_23 ts_23 tt_23 u130_0)) (w1 := fun u => (W_X5 cI q8 n2_0 n2_1 n2_2 n2_3 n2_4 n2_5 n2_6 n2_7 n2_8 n2_9 n2_10 mr_23 mc_23 me_23 mw_23 u132_0 mn_23 mu_23 ms_23 mt_23 md_23 mz_23 mi_23 mk_23 mo_23 mj_23 ml_23)) (fun u => (W_L cI cJ q0 n1_0 n1_1 n1_2 n1_3 n1_4 n1_5 n1_6 n1_7 n1_8 n1_9 n1_10 n1_11 n1_12 n1_13 n1_14 q8 n2_0 n2_1 n2_2 n2_3 n2_4 n2_5 n2_6 n2_7 n2_8 n2_9 n2_10 o0 xr_23 xt_23 gn_23 gu_23 gb_23 ga_23 lc_23 lk_23 ln_23 lt_23 ll_23 lr_23 tw_23 tn_23 ts_23 tt_23 mr_23 mc_23 me_23 mw_23 u132_0 mn_23 mu_23 ms_23 mt_23 md_23 mz_23 mi_23 mk_23 mo_23 mj_23 ml_23 u130_0)) hP hK hD hN hS hA [16, 17, 18, 19, 20, 21, 22, 23, 24, 25, 26, 27] [0, 1, 2, 3, 4, 5, 6, 7, 8, 9, 10, 11, 12, 13, 14, 15, 28] rfl rfl (by decide) (by decide) (by decide) [0, 1, 2, 3, 4, 5, 6, 7, 8, 9, 10, 11, 12, 13, 14, 15, 17, 18, 19, 20, 21, 22, 23, 24, 25, 26, 27, 28, 16] (by decide) (fun _ => rfl) (fun hg => va_runV (As := []) (rest := []) ⟨hx, hb, hml, hown, hts⟩ (c_X5_thrown l D cI q8 n2_0 n2_1 n2_2 n2_3 n2_4 n2_5 n2_6 n2_7 n2_8 n2_9 n2_10 mr_23 mc_23 me_23 mw_23 u132_0 mn_23 mu_23 ms_23 mt_23 md_23 mz_23 mi_23 mk_23 mo_23 mj_23 ml_23 _ ) (cwV 0 hts gL_law_X5_thrown rfl rfl rfl (by decide +kernel) ⟨Nat.le_of_ble_eq_true rfl, Nat.le_of_ble_eq_true rfl⟩) ⟨PW.blind, va_recv hK hP (ci := 5) (q0 := 16) rfl rfl, fun U hU hW => ⟨rfl, hg U hU hW⟩⟩ rfl rfl hl.1 rfl (lv_room (Nat.le_of_ble_eq_true rfl)) dL_law_924 ⟨(show (kc + 1) + 0 ≤ 601024 from by omega), (show (ks + 6) + 0 ≤ 7293034 from by omega)⟩) (fun r133 u H locs hw hP hD hS => ?_)
          subst hw
          refine lv_iload hx hb dL_law_927 (lv_at hl 1 rfl) ?_
          refine lv_icmp_eq (tgt := 934) hx hb dL_law_929 (by decide) (fun c134 => ?_) (fun c134 => ?_)
          · replace hp := hp.1 c134
            replace he := he.trans (if_pos c134)
            refine lv_iload hx hb dL_law_934 (lv_at hl 1 rfl) ?_
            refine lv_if_ne (tgt := 951) hx hb dL_law_936 (by decide) (fun c135 => ?_) (fun c135 => ?_)
            · replace hp := hp.2 c135
              replace he := he.trans (if_neg c135)
              refine lv_goto (tgt := 1579) hx hb dL_law_951 (by decide) ?_
              refine lv_iinc (v := (v23_4 + 3)) (lv' := [(4, .int (v23_4 + 3)), (6, .int r132), (5, .int r130), (3, .ref o0), (2, .ref q8), (1, .ref q0), (0, .ref b0)]) hx hb dL_law_1579 hl (k := 2) rfl rfl (by decide) rfl (fun ls hl => ?_)
              refine lv_goto (tgt := 23) hx hb dL_law_1582 (by decide) ?_
              refine W.widen (k := kc + 2) (n := ks + 9) (by omega) (by omega) ?_
              exact ih _ _ _ _ _ _ _ _ _ _ _ _ _ _ _ _ _ _ _ _ _ _ _ _ _ _ _ _ _ _ _ _ _ _ (kc + 2) (ks + 9) (by omega) (by omega) hp he _ _ hP hD hS _ (lv_sub hl [0, 3, 4, 5, 6] rfl)
            · replace hp := hp.1 c135
              replace he := he.trans (if_pos c135)
              refine lv_aload_n hx hb dL_law_939 rfl (lv_at hl 3 rfl) ?_
              refine lv_iconst (v := 0) hx hb dL_law_940 (by decide) ?_
              refine va_lald hx hb hK hP 28 1 rfl rfl (by decide) dL_law_941 ?_
              refine lv_iload hx hb dL_law_942 (lv_at hl 0 rfl) ?_
              refine lv_i2l (v := (r132).toInt64) hx hb dL_law_944 rfl ?_
              refine W.lcmp hx hb dL_law_945 ?_
              refine lv_if_eq (tgt := 951) hx hb dL_law_946 (by decide) (fun c137 => ?_) (fun c137 => ?_)
              · replace hp := hp.1 c137
                replace he := he.trans (if_pos c137)
                refine lv_goto (tgt := 1579) hx hb dL_law_951 (by decide) ?_
                refine lv_iinc (v := (v23_4 + 3)) (lv' := [(4, .int (v23_4 + 3)), (6, .int r132), (5, .int r130), (3, .ref o0), (2, .ref q8), (1, .ref q0), (0, .ref b0)]) hx hb dL_law_1579 hl (k := 2) rfl rfl (by decide) rfl (fun ls hl => ?_)
                refine lv_goto (tgt := 23) hx hb dL_law_1582 (by decide) ?_
                refine W.widen (k := kc + 2) (n := ks + 9) (by omega) (by omega) ?_
                exact ih _ _ _ _ _ _ _ _ _ _ _ _ _ _ _ _ _ _ _ _ _ _ _ _ _ _ _ _ _ _ _ _ _ _ (kc + 2) (ks + 9) (by omega) (by omega) hp he _ _ hP hD hS _ (lv_sub hl [0, 3, 4, 5, 6] rfl)
              · replace hp := hp.2 c137
                replace he := he.trans (if_neg c137)
                refine lv_iconst (v := 0) hx hb dL_law_949 (by decide) ?_
                exact absurd he (by decide)
          · replace hp := hp.2 c134
            replace he := he.trans (if_neg c134)
            refine lv_iconst (v := 0) hx hb dL_law_932 (by decide) ?_
            exact absurd he (by decide)
        replace he := he.trans (if_neg s13)
        replace hp := hp.2 s13
        rcases Decidable.em (((xs (v23_4).toNatClampNeg) &&& 31) = 14) with s14 | s14
        · replace he := he.trans (if_pos s14)
          replace hp := hp.1 s14
          refine lv_tableIn (off := 915) (tgt := 954) hx hb dL_law_39 (by rw [s14]; decide) (by rw [s14]; decide) (by rw [s14]; rfl) (by decide) ?_
          refine lv_aload_n hx hb dL_law_954 rfl (lv_at hl 3 rfl) ?_
          refine lv_aload_n hx hb dL_law_955 rfl (lv_at hl 4 rfl) ?_
          refine lv_iload hx hb dL_law_956 (lv_at hl 0 rfl) ?_
          refine lv_iconst (v := 1) hx hb dL_law_958 (by decide) ?_
          refine lv_iadd hx hb dL_law_959 ?_
          have h138 := hp.1
          replace hp := hp.2
          refine va_sld hx hb hX hbl hbA hS h138 dL_law_960 ?_
          refine lv_aload_n hx hb dL_law_961 rfl (lv_at hl 1 rfl) ?_
          have hq139 := hp.1
          replace hp := hp.2
          refine k_ycalli (S := LA) (wc := (W_O cI cJ q0 n1_0 n1_1 n1_2 n1_3 n1_4 n1_5 n1_6 n1_7 n1_8 n1_9 n1_10 n1_11 n1_12 n1_13 n1_14 o0 xr_23 xt_23 gn_23 gu_23 gb_23 ga_23 lc_23 lk_23 ln_23 lt_23 ll_23 lr_23 tw_23 tn_23 ts_23 tt_23 oo_23)) (wr := (W_X5 cI q8 n2_0 n2_1 n2_2 n2_3 n2_4 n2_5 n2_6 n2_7 n2_8 n2_9 n2_10 mr_23 mc_23 me_23 mw_23 mh_23 mn_23 mu_23 ms_23 mt_23 md_23 mz_23 mi_23 mk_23 mo_23 mj_23 ml_23)) (w1 := fun u => (W_O cI cJ q0 n1_0 n1_1 n1_2 n1_3 n1_4 n1_5 n1_6 n1_7 n1_8 n1_9 n1_10 n1_11 n1_12 n1_13 n1_14 o0 xr_23 xt_23 gn_23 gu_23 gb_23 ga_23 lc_23 lk_23 ln_23 lt_23 ll_23 lr_23 tw_23 tn_23 ts_23 tt_23 u)) (fun u => (W_L cI cJ q0 n1_0 n1_1 n1_2 n1_3 n1_4 n1_5 n1_6 n1_7 n1_8 n1_9 n1_10 n1_11 n1_12 n1_13 n1_14 q8 n2_0 n2_1 n2_2 n2_3 n2_4 n2_5 n2_6 n2_7 n2_8 n2_9 n2_10 o0 xr_23 xt_23 gn_23 gu_23 gb_23 ga_23 lc_23 lk_23 ln_23 lt_23 ll_23 lr_23 tw_23 tn_23 ts_23 tt_23 mr_23 mc_23 me_23 mw_23 mh_23 mn_23 mu_23 ms_23 mt_23 md_23 mz_23 mi_23 mk_23 mo_23 mj_23 ml_23 u)) hP hK hD hN hXB hS hA [0, 1, 2, 3, 4, 5, 6, 7, 8, 9, 10, 11, 12, 13, 14, 15, 28] [16, 17, 18, 19, 20, 21, 22, 23, 24, 25, 26, 27] rfl rfl (by decide) (by decide) (by decide) [12, 13, 14, 15, 16, 17, 18, 19, 20, 21, 22, 23, 24, 25, 26, 27, 0, 1, 2, 3, 4, 5, 6, 7, 8, 9, 10, 11, 28] (by decide) (fun _ => rfl) (fun hg => va_runS (As := [.ref q0, .int (xs ((v23_4 + 1)).toNatClampNeg), .ref o0]) (rest := []) ⟨hx, hb, hml, hown, hts⟩ (c_L_eventNode l D cI cJ q0 n1_0 n1_1 n1_2 n1_3 n1_4 n1_5 n1_6 n1_7 n1_8 n1_9 n1_10 n1_11 n1_12 n1_13 n1_14 o0 xr_23 xt_23 gn_23 gu_23 gb_23 ga_23 lc_23 lk_23 ln_23 lt_23 ll_23 lr_23 tw_23 tn_23 ts_23 tt_23 oo_23 _ (xs ((v23_4 + 1)).toNatClampNeg) hq139 hst) (va_cwS 3 hts gL_law_L_eventNode rfl rfl rfl (by decide +kernel) ⟨Nat.le_of_ble_eq_true rfl, Nat.le_of_ble_eq_true rfl⟩) ⟨PX.blind, fun U hU hW => ⟨rfl, hg U hU hW⟩⟩ rfl rfl hl.1 rfl (lv_room (Nat.le_of_ble_eq_true rfl)) dL_law_962 ⟨(show kc + 1 ≤ 601024 from by omega), (show ks + 6 ≤ 7293034 from by omega)⟩) (fun r139 u H locs hw hP hD hS => ?_)
          obtain ⟨u139_0, rfl⟩ : ∃ z, z = u := ⟨_, rfl⟩
          rw [hw] at he
          try dsimp only at he
          replace hp := hp r139 u139_0 hw
          have hP : va_P D vwCl (W_L cI cJ q0 n1_0 n1_1 n1_2 n1_3 n1_4 n1_5 n1_6 n1_7 n1_8 n1_9 n1_10 n1_11 n1_12 n1_13 n1_14 q8 n2_0 n2_1 n2_2 n2_3 n2_4 n2_5 n2_6 n2_7 n2_8 n2_9 n2_10 o0 xr_23 xt_23 gn_23 gu_23 gb_23 ga_23 lc_23 lk_23 ln_23 lt_23 ll_23 lr_23 tw_23 tn_23 ts_23 tt_23 mr_23 mc_23 me_23 mw_23 mh_23 mn_23 mu_23 ms_23 mt_23 md_23 mz_23 mi_23 mk_23 mo_23 mj_23 ml_23 u139_0) H := hP
          have hD : va_D A (W_L cI cJ q0 n1_0 n1_1 n1_2 n1_3 n1_4 n1_5 n1_6 n1_7 n1_8 n1_9 n1_10 n1_11 n1_12 n1_13 n1_14 q8 n2_0 n2_1 n2_2 n2_3 n2_4 n2_5 n2_6 n2_7 n2_8 n2_9 n2_10 o0 xr_23 xt_23 gn_23 gu_23 gb_23 ga_23 lc_23 lk_23 ln_23 lt_23 ll_23 lr_23 tw_23 tn_23 ts_23 tt_23 mr_23 mc_23 me_23 mw_23 mh_23 mn_23 mu_23 ms_23 mt_23 md_23 mz_23 mi_23 mk_23 mo_23 mj_23 ml_23 u139_0) := hD
          refine lv_istore (lv' := [(5, .int r139), (4, .int v23_4), (3, .ref o0), (2, .ref q8), (1, .ref q0), (0, .ref b0)]) hx hb dL_law_965 hl (by decide) rfl (fun ls hl => ?_)
          refine lv_aload_n hx hb dL_law_967 rfl (lv_at hl 3 rfl) ?_
          refine lv_aload_n hx hb dL_law_968 rfl (lv_at hl 5 rfl) ?_
          refine lv_iload hx hb dL_law_969 (lv_at hl 1 rfl) ?_
          refine lv_iconst (v := 1) hx hb dL_law_971 (by decide) ?_
          refine lv_iadd hx hb dL_law_972 ?_
          have h140 := hp.1
          replace hp := hp.2
          refine va_sld hx hb hX hbl hbA hS h140 dL_law_973 ?_
          have hq141 := hp.1
          replace hp := hp.2
          refine k_calli (S := Int32) (wc := (W_X5 cI q8 n2_0 n2_1 n2_2 n2_3 n2_4 n2_5 n2_6 n2_7 n2_8 n2_9 n2_10 mr_23 mc_23 me_23 mw_23 mh_23 mn_23 mu_23 ms_23 mt_23 md_23 mz_23 mi_23 mk_23 mo_23 mj_23 ml_23)) (wr := (W_O cI cJ q0 n1_0 n1_1 n1_2 n1_3 n1_4 n1_5 n1_6 n1_7 n1_8 n1_9 n1_10 n1_11 n1_12 n1_13 n1_14 o0 xr_23 xt_23 gn_23 gu_23 gb_23 ga_23 lc_23 lk_23 ln_23 lt_23 ll_23 lr_23 tw_23 tn_23 ts_23 tt_23 u139_0)) (w1 := fun u => (W_X5 cI q8 n2_0 n2_1 n2_2 n2_3 n2_4 n2_5 n2_6 n2_7 n2_8 n2_9 n2_10 mr_23 mc_23 me_23 mw_23 u mn_23 mu_23 ms_23 mt_23 md_23 mz_23 mi_23 mk_23 mo_23 mj_23 ml_23)) (fun u => (W_L cI cJ q0 n1_0 n1_1 n1_2 n1_3 n1_4 n1_5 n1_6 n1_7 n1_8 n1_9 n1_10 n1_11 n1_12 n1_13 n1_14 q8 n2_0 n2_1 n2_2 n2_3 n2_4 n2_5 n2_6 n2_7 n2_8 n2_9 n2_10 o0 xr_23 xt_23 gn_23 gu_23 gb_23 ga_23 lc_23 lk_23 ln_23 lt_23 ll_23 lr_23 tw_23 tn_23 ts_23 tt_23 mr_23 mc_23 me_23 mw_23 u mn_23 mu_23 ms_23 mt_23 md_23 mz_23 mi_23 mk_23 mo_23 mj_23 ml_23 u139_0)) hP hK hD hN hS hA [16, 17, 18, 19, 20, 21, 22, 23, 24, 25, 26, 27] [0, 1, 2, 3, 4, 5, 6, 7, 8, 9, 10, 11, 12, 13, 14, 15, 28] rfl rfl (by decide) (by decide) (by decide) [0, 1, 2, 3, 4, 5, 6, 7, 8, 9, 10, 11, 12, 13, 14, 15, 17, 18, 19, 20, 21, 22, 23, 24, 25, 26, 27, 28, 16] (by decide) (fun _ => rfl) (fun hg => va_runV (As := [.int (xs ((v23_4 + 1)).toNatClampNeg)]) (rest := []) ⟨hx, hb, hml, hown, hts⟩ (c_X5_eventNode l D cI q8 n2_0 n2_1 n2_2 n2_3 n2_4 n2_5 n2_6 n2_7 n2_8 n2_9 n2_10 mr_23 mc_23 me_23 mw_23 mh_23 mn_23 mu_23 ms_23 mt_23 md_23 mz_23 mi_23 mk_23 mo_23 mj_23 ml_23 _ (xs ((v23_4 + 1)).toNatClampNeg) hq141) (cwV 1 hts gL_law_X5_eventNode rfl rfl rfl (by decide +kernel) ⟨Nat.le_of_ble_eq_true rfl, Nat.le_of_ble_eq_true rfl⟩) ⟨PW.blind, va_recv hK hP (ci := 5) (q0 := 16) rfl rfl, fun U hU hW => ⟨rfl, hg U hU hW⟩⟩ rfl rfl hl.1 rfl (lv_room (Nat.le_of_ble_eq_true rfl)) dL_law_974 ⟨(show (kc + 1) + 0 ≤ 601024 from by omega), (show (ks + 6) + 0 ≤ 7293034 from by omega)⟩) (fun r141 u H locs hw hP hD hS => ?_)
          obtain ⟨u141_0, rfl⟩ : ∃ z, z = u := ⟨_, rfl⟩
          rw [hw] at he
          try dsimp only at he
          replace hp := hp r141 u141_0 hw
          have hP : va_P D vwCl (W_L cI cJ q0 n1_0 n1_1 n1_2 n1_3 n1_4 n1_5 n1_6 n1_7 n1_8 n1_9 n1_10 n1_11 n1_12 n1_13 n1_14 q8 n2_0 n2_1 n2_2 n2_3 n2_4 n2_5 n2_6 n2_7 n2_8 n2_9 n2_10 o0 xr_23 xt_23 gn_23 gu_23 gb_23 ga_23 lc_23 lk_23 ln_23 lt_23 ll_23 lr_23 tw_23 tn_23 ts_23 tt_23 mr_23 mc_23 me_23 mw_23 u141_0 mn_23 mu_23 ms_23 mt_23 md_23 mz_23 mi_23 mk_23 mo_23 mj_23 ml_23 u139_0) H := hP
          have hD : va_D A (W_L cI cJ q0 n1_0 n1_1 n1_2 n1_3 n1_4 n1_5 n1_6 n1_7 n1_8 n1_9 n1_10 n1_11 n1_12 n1_13 n1_14 q8 n2_0 n2_1 n2_2 n2_3 n2_4 n2_5 n2_6 n2_7 n2_8 n2_9 n2_10 o0 xr_23 xt_23 gn_23 gu_23 gb_23 ga_23 lc_23 lk_23 ln_23 lt_23 ll_23 lr_23 tw_23 tn_23 ts_23 tt_23 mr_23 mc_23 me_23 mw_23 u141_0 mn_23 mu_23 ms_23 mt_23 md_23 mz_23 mi_23 mk_23 mo_23 mj_23 ml_23 u139_0) := hD
          refine lv_istore (lv' := [(6, .int r141), (5, .int r139), (4, .int v23_4), (3, .ref o0), (2, .ref q8), (1, .ref q0), (0, .ref b0)]) hx hb dL_law_977 hl (by decide) rfl (fun ls hl => ?_)
          refine lv_aload_n hx hb dL_law_979 rfl (lv_at hl 4 rfl) ?_
          refine k_calli (S := Unit) (wc := (W_X5 cI q8 n2_0 n2_1 n2_2 n2_3 n2_4 n2_5 n2_6 n2_7 n2_8 n2_9 n2_10 mr_23 mc_23 me_23 mw_23 u141_0 mn_23 mu_23 ms_23 mt_23 md_23 mz_23 mi_23 mk_23 mo_23 mj_23 ml_23)) (wr := (W_O cI cJ q0 n1_0 n1_1 n1_2 n1_3 n1_4 n1_5 n1_6 n1_7 n1_8 n1_9 n1_10 n1_11 n1_12 n1_13 n1_14 o0 xr_23 xt_23 gn_23 gu_23 gb_23 ga_23 lc_23 lk_23 ln_23 lt_23 ll_23 lr_23 tw_23 tn_23 ts_23 tt_23 u139_0)) (w1 := fun u => (W_X5 cI q8 n2_0 n2_1 n2_2 n2_3 n2_4 n2_5 n2_6 n2_7 n2_8 n2_9 n2_10 mr_23 mc_23 me_23 mw_23 u141_0 mn_23 mu_23 ms_23 mt_23 md_23 mz_23 mi_23 mk_23 mo_23 mj_23 ml_23)) (fun u => (W_L cI cJ q0 n1_0 n1_1 n1_2 n1_3 n1_4 n1_5 n1_6 n1_7 n1_8 n1_9 n1_10 n1_11 n1_12 n1_13 n1_14 q8 n2_0 n2_1 n2_2 n2_3 n2_4 n2_5 n2_6 n2_7 n2_8 n2_9 n2_10 o0 xr_23 xt_23 gn_23 gu_23 gb_23 ga_23 lc_23 lk_23 ln_23 lt_23 ll_23 lr_23 tw_23 tn_23 ts_23 tt_23 mr_23 mc_23 me_23 mw_23 u141_0 mn_23 mu_23 ms_23 mt_23 md_23 mz_23 mi_23 mk_23 mo_23 mj_23 ml_23 u139_0)) hP hK hD hN hS hA [16, 17, 18, 19, 20, 21, 22, 23, 24, 25, 26, 27] [0, 1, 2, 3, 4, 5, 6, 7, 8, 9, 10, 11, 12, 13, 14, 15, 28] rfl rfl (by decide) (by decide) (by decide) [0, 1, 2, 3, 4, 5, 6, 7, 8, 9, 10, 11, 12, 13, 14, 15, 17, 18, 19, 20, 21, 22, 23, 24, 25, 26, 27, 28, 16] (by decide) (fun _ => rfl) (fun hg => va_runV (As := []) (rest := []) ⟨hx, hb, hml, hown, hts⟩ (c_X5_thrown l D cI q8 n2_0 n2_1 n2_2 n2_3 n2_4 n2_5 n2_6 n2_7 n2_8 n2_9 n2_10 mr_23 mc_23 me_23 mw_23 u141_0 mn_23 mu_23 ms_23 mt_23 md_23 mz_23 mi_23 mk_23 mo_23 mj_23 ml_23 _ ) (cwV 0 hts gL_law_X5_thrown rfl rfl rfl (by decide +kernel) ⟨Nat.le_of_ble_eq_true rfl, Nat.le_of_ble_eq_true rfl⟩) ⟨PW.blind, va_recv hK hP (ci := 5) (q0 := 16) rfl rfl, fun U hU hW => ⟨rfl, hg U hU hW⟩⟩ rfl rfl hl.1 rfl (lv_room (Nat.le_of_ble_eq_true rfl)) dL_law_980 ⟨(show (kc + 1) + 0 ≤ 601024 from by omega), (show (ks + 6) + 0 ≤ 7293034 from by omega)⟩) (fun r142 u H locs hw hP hD hS => ?_)
          subst hw
          refine lv_iload hx hb dL_law_983 (lv_at hl 1 rfl) ?_
          refine lv_icmp_eq (tgt := 990) hx hb dL_law_985 (by decide) (fun c143 => ?_) (fun c143 => ?_)
          · replace hp := hp.1 c143
            replace he := he.trans (if_pos c143)
            refine lv_iload hx hb dL_law_990 (lv_at hl 1 rfl) ?_
            refine lv_if_ne (tgt := 1007) hx hb dL_law_992 (by decide) (fun c144 => ?_) (fun c144 => ?_)
            · replace hp := hp.2 c144
              replace he := he.trans (if_neg c144)
              refine lv_goto (tgt := 1579) hx hb dL_law_1007 (by decide) ?_
              refine lv_iinc (v := (v23_4 + 3)) (lv' := [(4, .int (v23_4 + 3)), (6, .int r141), (5, .int r139), (3, .ref o0), (2, .ref q8), (1, .ref q0), (0, .ref b0)]) hx hb dL_law_1579 hl (k := 2) rfl rfl (by decide) rfl (fun ls hl => ?_)
              refine lv_goto (tgt := 23) hx hb dL_law_1582 (by decide) ?_
              refine W.widen (k := kc + 2) (n := ks + 9) (by omega) (by omega) ?_
              exact ih _ _ _ _ _ _ _ _ _ _ _ _ _ _ _ _ _ _ _ _ _ _ _ _ _ _ _ _ _ _ _ _ _ _ (kc + 2) (ks + 9) (by omega) (by omega) hp he _ _ hP hD hS _ (lv_sub hl [0, 3, 4, 5, 6] rfl)
            · replace hp := hp.1 c144
              replace he := he.trans (if_pos c144)
              refine lv_aload_n hx hb dL_law_995 rfl (lv_at hl 3 rfl) ?_
              refine lv_iconst (v := 0) hx hb dL_law_996 (by decide) ?_
              refine va_lald hx hb hK hP 28 1 rfl rfl (by decide) dL_law_997 ?_
              refine lv_iload hx hb dL_law_998 (lv_at hl 0 rfl) ?_
              refine lv_i2l (v := (r141).toInt64) hx hb dL_law_1000 rfl ?_
              refine W.lcmp hx hb dL_law_1001 ?_
              refine lv_if_eq (tgt := 1007) hx hb dL_law_1002 (by decide) (fun c146 => ?_) (fun c146 => ?_)
              · replace hp := hp.1 c146
                replace he := he.trans (if_pos c146)
                refine lv_goto (tgt := 1579) hx hb dL_law_1007 (by decide) ?_
                refine lv_iinc (v := (v23_4 + 3)) (lv' := [(4, .int (v23_4 + 3)), (6, .int r141), (5, .int r139), (3, .ref o0), (2, .ref q8), (1, .ref q0), (0, .ref b0)]) hx hb dL_law_1579 hl (k := 2) rfl rfl (by decide) rfl (fun ls hl => ?_)
                refine lv_goto (tgt := 23) hx hb dL_law_1582 (by decide) ?_
                refine W.widen (k := kc + 2) (n := ks + 9) (by omega) (by omega) ?_
                exact ih _ _ _ _ _ _ _ _ _ _ _ _ _ _ _ _ _ _ _ _ _ _ _ _ _ _ _ _ _ _ _ _ _ _ (kc + 2) (ks + 9) (by omega) (by omega) hp he _ _ hP hD hS _ (lv_sub hl [0, 3, 4, 5, 6] rfl)
              · replace hp := hp.2 c146
                replace he := he.trans (if_neg c146)
                refine lv_iconst (v := 0) hx hb dL_law_1005 (by decide) ?_
                exact absurd he (by decide)
          · replace hp := hp.2 c143
            replace he := he.trans (if_neg c143)
            refine lv_iconst (v := 0) hx hb dL_law_988 (by decide) ?_
            exact absurd he (by decide)
        replace he := he.trans (if_neg s14)
        replace hp := hp.2 s14
        rcases Decidable.em (((xs (v23_4).toNatClampNeg) &&& 31) = 15) with s15 | s15
        · replace he := he.trans (if_pos s15)
          replace hp := hp.1 s15
          refine lv_tableIn (off := 971) (tgt := 1010) hx hb dL_law_39 (by rw [s15]; decide) (by rw [s15]; decide) (by rw [s15]; rfl) (by decide) ?_
          refine lv_aload_n hx hb dL_law_1010 rfl (lv_at hl 3 rfl) ?_
          refine lv_aload_n hx hb dL_law_1011 rfl (lv_at hl 4 rfl) ?_
          refine lv_iload hx hb dL_law_1012 (lv_at hl 0 rfl) ?_
          refine lv_iconst (v := 1) hx hb dL_law_1014 (by decide) ?_
          refine lv_iadd hx hb dL_law_1015 ?_
          have h147 := hp.1
          replace hp := hp.2
          refine va_sld hx hb hX hbl hbA hS h147 dL_law_1016 ?_
          refine lv_aload_n hx hb dL_law_1017 rfl (lv_at hl 1 rfl) ?_
          have hq148 := hp.1
          replace hp := hp.2
          refine k_ycalli (S := LA) (wc := (W_O cI cJ q0 n1_0 n1_1 n1_2 n1_3 n1_4 n1_5 n1_6 n1_7 n1_8 n1_9 n1_10 n1_11 n1_12 n1_13 n1_14 o0 xr_23 xt_23 gn_23 gu_23 gb_23 ga_23 lc_23 lk_23 ln_23 lt_23 ll_23 lr_23 tw_23 tn_23 ts_23 tt_23 oo_23)) (wr := (W_X5 cI q8 n2_0 n2_1 n2_2 n2_3 n2_4 n2_5 n2_6 n2_7 n2_8 n2_9 n2_10 mr_23 mc_23 me_23 mw_23 mh_23 mn_23 mu_23 ms_23 mt_23 md_23 mz_23 mi_23 mk_23 mo_23 mj_23 ml_23)) (w1 := fun u => (W_O cI cJ q0 n1_0 n1_1 n1_2 n1_3 n1_4 n1_5 n1_6 n1_7 n1_8 n1_9 n1_10 n1_11 n1_12 n1_13 n1_14 o0 xr_23 xt_23 gn_23 gu_23 gb_23 ga_23 lc_23 lk_23 ln_23 lt_23 ll_23 lr_23 tw_23 tn_23 ts_23 tt_23 u)) (fun u => (W_L cI cJ q0 n1_0 n1_1 n1_2 n1_3 n1_4 n1_5 n1_6 n1_7 n1_8 n1_9 n1_10 n1_11 n1_12 n1_13 n1_14 q8 n2_0 n2_1 n2_2 n2_3 n2_4 n2_5 n2_6 n2_7 n2_8 n2_9 n2_10 o0 xr_23 xt_23 gn_23 gu_23 gb_23 ga_23 lc_23 lk_23 ln_23 lt_23 ll_23 lr_23 tw_23 tn_23 ts_23 tt_23 mr_23 mc_23 me_23 mw_23 mh_23 mn_23 mu_23 ms_23 mt_23 md_23 mz_23 mi_23 mk_23 mo_23 mj_23 ml_23 u)) hP hK hD hN hXB hS hA [0, 1, 2, 3, 4, 5, 6, 7, 8, 9, 10, 11, 12, 13, 14, 15, 28] [16, 17, 18, 19, 20, 21, 22, 23, 24, 25, 26, 27] rfl rfl (by decide) (by decide) (by decide) [12, 13, 14, 15, 16, 17, 18, 19, 20, 21, 22, 23, 24, 25, 26, 27, 0, 1, 2, 3, 4, 5, 6, 7, 8, 9, 10, 11, 28] (by decide) (fun _ => rfl) (fun hg => va_runS (As := [.ref q0, .int (xs ((v23_4 + 1)).toNatClampNeg), .ref o0]) (rest := []) ⟨hx, hb, hml, hown, hts⟩ (c_L_eventTime l D cI cJ q0 n1_0 n1_1 n1_2 n1_3 n1_4 n1_5 n1_6 n1_7 n1_8 n1_9 n1_10 n1_11 n1_12 n1_13 n1_14 o0 xr_23 xt_23 gn_23 gu_23 gb_23 ga_23 lc_23 lk_23 ln_23 lt_23 ll_23 lr_23 tw_23 tn_23 ts_23 tt_23 oo_23 _ (xs ((v23_4 + 1)).toNatClampNeg) hq148 hst) (va_cwS 3 hts gL_law_L_eventTime rfl rfl rfl (by decide +kernel) ⟨Nat.le_of_ble_eq_true rfl, Nat.le_of_ble_eq_true rfl⟩) ⟨PX.blind, fun U hU hW => ⟨rfl, hg U hU hW⟩⟩ rfl rfl hl.1 rfl (lv_room (Nat.le_of_ble_eq_true rfl)) dL_law_1018 ⟨(show kc + 1 ≤ 601024 from by omega), (show ks + 6 ≤ 7293034 from by omega)⟩) (fun r148 u H locs hw hP hD hS => ?_)
          obtain ⟨u148_0, rfl⟩ : ∃ z, z = u := ⟨_, rfl⟩
          rw [hw] at he
          try dsimp only at he
          replace hp := hp r148 u148_0 hw
          have hP : va_P D vwCl (W_L cI cJ q0 n1_0 n1_1 n1_2 n1_3 n1_4 n1_5 n1_6 n1_7 n1_8 n1_9 n1_10 n1_11 n1_12 n1_13 n1_14 q8 n2_0 n2_1 n2_2 n2_3 n2_4 n2_5 n2_6 n2_7 n2_8 n2_9 n2_10 o0 xr_23 xt_23 gn_23 gu_23 gb_23 ga_23 lc_23 lk_23 ln_23 lt_23 ll_23 lr_23 tw_23 tn_23 ts_23 tt_23 mr_23 mc_23 me_23 mw_23 mh_23 mn_23 mu_23 ms_23 mt_23 md_23 mz_23 mi_23 mk_23 mo_23 mj_23 ml_23 u148_0) H := hP
          have hD : va_D A (W_L cI cJ q0 n1_0 n1_1 n1_2 n1_3 n1_4 n1_5 n1_6 n1_7 n1_8 n1_9 n1_10 n1_11 n1_12 n1_13 n1_14 q8 n2_0 n2_1 n2_2 n2_3 n2_4 n2_5 n2_6 n2_7 n2_8 n2_9 n2_10 o0 xr_23 xt_23 gn_23 gu_23 gb_23 ga_23 lc_23 lk_23 ln_23 lt_23 ll_23 lr_23 tw_23 tn_23 ts_23 tt_23 mr_23 mc_23 me_23 mw_23 mh_23 mn_23 mu_23 ms_23 mt_23 md_23 mz_23 mi_23 mk_23 mo_23 mj_23 ml_23 u148_0) := hD
          refine lv_istore (lv' := [(5, .int r148), (4, .int v23_4), (3, .ref o0), (2, .ref q8), (1, .ref q0), (0, .ref b0)]) hx hb dL_law_1021 hl (by decide) rfl (fun ls hl => ?_)
          refine lv_aload_n hx hb dL_law_1023 rfl (lv_at hl 3 rfl) ?_
          refine lv_aload_n hx hb dL_law_1024 rfl (lv_at hl 5 rfl) ?_
          refine lv_iload hx hb dL_law_1025 (lv_at hl 1 rfl) ?_
          refine lv_iconst (v := 1) hx hb dL_law_1027 (by decide) ?_
          refine lv_iadd hx hb dL_law_1028 ?_
          have h149 := hp.1
          replace hp := hp.2
          refine va_sld hx hb hX hbl hbA hS h149 dL_law_1029 ?_
          have hq150 := hp.1
          replace hp := hp.2
          refine k_calli (S := Int32) (wc := (W_X5 cI q8 n2_0 n2_1 n2_2 n2_3 n2_4 n2_5 n2_6 n2_7 n2_8 n2_9 n2_10 mr_23 mc_23 me_23 mw_23 mh_23 mn_23 mu_23 ms_23 mt_23 md_23 mz_23 mi_23 mk_23 mo_23 mj_23 ml_23)) (wr := (W_O cI cJ q0 n1_0 n1_1 n1_2 n1_3 n1_4 n1_5 n1_6 n1_7 n1_8 n1_9 n1_10 n1_11 n1_12 n1_13 n1_14 o0 xr_23 xt_23 gn_23 gu_23 gb_23 ga_23 lc_23 lk_23 ln_23 lt_23 ll_23 lr_23 tw_23 tn_23 ts_23 tt_23 u148_0)) (w1 := fun u => (W_X5 cI q8 n2_0 n2_1 n2_2 n2_3 n2_4 n2_5 n2_6 n2_7 n2_8 n2_9 n2_10 mr_23 mc_23 me_23 mw_23 u mn_23 mu_23 ms_23 mt_23 md_23 mz_23 mi_23 mk_23 mo_23 mj_23 ml_23)) (fun u => (W_L cI cJ q0 n1_0 n1_1 n1_2 n1_3 n1_4 n1_5 n1_6 n1_7 n1_8 n1_9 n1_10 n1_11 n1_12 n1_13 n1_14 q8 n2_0 n2_1 n2_2 n2_3 n2_4 n2_5 n2_6 n2_7 n2_8 n2_9 n2_10 o0 xr_23 xt_23 gn_23 gu_23 gb_23 ga_23 lc_23 lk_23 ln_23 lt_23 ll_23 lr_23 tw_23 tn_23 ts_23 tt_23 mr_23 mc_23 me_23 mw_23 u mn_23 mu_23 ms_23 mt_23 md_23 mz_23 mi_23 mk_23 mo_23 mj_23 ml_23 u148_0)) hP hK hD hN hS hA [16, 17, 18, 19, 20, 21, 22, 23, 24, 25, 26, 27] [0, 1, 2, 3, 4, 5, 6, 7, 8, 9, 10, 11, 12, 13, 14, 15, 28] rfl rfl (by decide) (by decide) (by decide) [0, 1, 2, 3, 4, 5, 6, 7, 8, 9, 10, 11, 12, 13, 14, 15, 17, 18, 19, 20, 21, 22, 23, 24, 25, 26, 27, 28, 16] (by decide) (fun _ => rfl) (fun hg => va_runV (As := [.int (xs ((v23_4 + 1)).toNatClampNeg)]) (rest := []) ⟨hx, hb, hml, hown, hts⟩ (c_X5_eventTime l D cI q8 n2_0 n2_1 n2_2 n2_3 n2_4 n2_5 n2_6 n2_7 n2_8 n2_9 n2_10 mr_23 mc_23 me_23 mw_23 mh_23 mn_23 mu_23 ms_23 mt_23 md_23 mz_23 mi_23 mk_23 mo_23 mj_23 ml_23 _ (xs ((v23_4 + 1)).toNatClampNeg) hq150) (cwV 1 hts gL_law_X5_eventTime rfl rfl rfl (by decide +kernel) ⟨Nat.le_of_ble_eq_true rfl, Nat.le_of_ble_eq_true rfl⟩) ⟨PW.blind, va_recv hK hP (ci := 5) (q0 := 16) rfl rfl, fun U hU hW => ⟨rfl, hg U hU hW⟩⟩ rfl rfl hl.1 rfl (lv_room (Nat.le_of_ble_eq_true rfl)) dL_law_1030 ⟨(show (kc + 1) + 0 ≤ 601024 from by omega), (show (ks + 6) + 0 ≤ 7293034 from by omega)⟩) (fun r150 u H locs hw hP hD hS => ?_)
          obtain ⟨u150_0, rfl⟩ : ∃ z, z = u := ⟨_, rfl⟩
          rw [hw] at he
          try dsimp only at he
          replace hp := hp r150 u150_0 hw
          have hP : va_P D vwCl (W_L cI cJ q0 n1_0 n1_1 n1_2 n1_3 n1_4 n1_5 n1_6 n1_7 n1_8 n1_9 n1_10 n1_11 n1_12 n1_13 n1_14 q8 n2_0 n2_1 n2_2 n2_3 n2_4 n2_5 n2_6 n2_7 n2_8 n2_9 n2_10 o0 xr_23 xt_23 gn_23 gu_23 gb_23 ga_23 lc_23 lk_23 ln_23 lt_23 ll_23 lr_23 tw_23 tn_23 ts_23 tt_23 mr_23 mc_23 me_23 mw_23 u150_0 mn_23 mu_23 ms_23 mt_23 md_23 mz_23 mi_23 mk_23 mo_23 mj_23 ml_23 u148_0) H := hP
          have hD : va_D A (W_L cI cJ q0 n1_0 n1_1 n1_2 n1_3 n1_4 n1_5 n1_6 n1_7 n1_8 n1_9 n1_10 n1_11 n1_12 n1_13 n1_14 q8 n2_0 n2_1 n2_2 n2_3 n2_4 n2_5 n2_6 n2_7 n2_8 n2_9 n2_10 o0 xr_23 xt_23 gn_23 gu_23 gb_23 ga_23 lc_23 lk_23 ln_23 lt_23 ll_23 lr_23 tw_23 tn_23 ts_23 tt_23 mr_23 mc_23 me_23 mw_23 u150_0 mn_23 mu_23 ms_23 mt_23 md_23 mz_23 mi_23 mk_23 mo_23 mj_23 ml_23 u148_0) := hD
          refine lv_istore (lv' := [(6, .int r150), (5, .int r148), (4, .int v23_4), (3, .ref o0), (2, .ref q8), (1, .ref q0), (0, .ref b0)]) hx hb dL_law_1033 hl (by decide) rfl (fun ls hl => ?_)
          refine lv_aload_n hx hb dL_law_1035 rfl (lv_at hl 4 rfl) ?_
          refine k_calli (S := Unit) (wc := (W_X5 cI q8 n2_0 n2_1 n2_2 n2_3 n2_4 n2_5 n2_6 n2_7 n2_8 n2_9 n2_10 mr_23 mc_23 me_23 mw_23 u150_0 mn_23 mu_23 ms_23 mt_23 md_23 mz_23 mi_23 mk_23 mo_23 mj_23 ml_23)) (wr := (W_O cI cJ q0 n1_0 n1_1 n1_2 n1_3 n1_4 n1_5 n1_6 n1_7 n1_8 n1_9 n1_10 n1_11 n1_12 n1_13 n1_14 o0 xr_23 xt_23 gn_23 gu_23 gb_23 ga_23 lc_23 lk_23 ln_23 lt_23 ll_23 lr_23 tw_23 tn_23 ts_23 tt_23 u148_0)) (w1 := fun u => (W_X5 cI q8 n2_0 n2_1 n2_2 n2_3 n2_4 n2_5 n2_6 n2_7 n2_8 n2_9 n2_10 mr_23 mc_23 me_23 mw_23 u150_0 mn_23 mu_23 ms_23 mt_23 md_23 mz_23 mi_23 mk_23 mo_23 mj_23 ml_23)) (fun u => (W_L cI cJ q0 n1_0 n1_1 n1_2 n1_3 n1_4 n1_5 n1_6 n1_7 n1_8 n1_9 n1_10 n1_11 n1_12 n1_13 n1_14 q8 n2_0 n2_1 n2_2 n2_3 n2_4 n2_5 n2_6 n2_7 n2_8 n2_9 n2_10 o0 xr_23 xt_23 gn_23 gu_23 gb_23 ga_23 lc_23 lk_23 ln_23 lt_23 ll_23 lr_23 tw_23 tn_23 ts_23 tt_23 mr_23 mc_23 me_23 mw_23 u150_0 mn_23 mu_23 ms_23 mt_23 md_23 mz_23 mi_23 mk_23 mo_23 mj_23 ml_23 u148_0)) hP hK hD hN hS hA [16, 17, 18, 19, 20, 21, 22, 23, 24, 25, 26, 27] [0, 1, 2, 3, 4, 5, 6, 7, 8, 9, 10, 11, 12, 13, 14, 15, 28] rfl rfl (by decide) (by decide) (by decide) [0, 1, 2, 3, 4, 5, 6, 7, 8, 9, 10, 11, 12, 13, 14, 15, 17, 18, 19, 20, 21, 22, 23, 24, 25, 26, 27, 28, 16] (by decide) (fun _ => rfl) (fun hg => va_runV (As := []) (rest := []) ⟨hx, hb, hml, hown, hts⟩ (c_X5_thrown l D cI q8 n2_0 n2_1 n2_2 n2_3 n2_4 n2_5 n2_6 n2_7 n2_8 n2_9 n2_10 mr_23 mc_23 me_23 mw_23 u150_0 mn_23 mu_23 ms_23 mt_23 md_23 mz_23 mi_23 mk_23 mo_23 mj_23 ml_23 _ ) (cwV 0 hts gL_law_X5_thrown rfl rfl rfl (by decide +kernel) ⟨Nat.le_of_ble_eq_true rfl, Nat.le_of_ble_eq_true rfl⟩) ⟨PW.blind, va_recv hK hP (ci := 5) (q0 := 16) rfl rfl, fun U hU hW => ⟨rfl, hg U hU hW⟩⟩ rfl rfl hl.1 rfl (lv_room (Nat.le_of_ble_eq_true rfl)) dL_law_1036 ⟨(show (kc + 1) + 0 ≤ 601024 from by omega), (show (ks + 6) + 0 ≤ 7293034 from by omega)⟩) (fun r151 u H locs hw hP hD hS => ?_)
          subst hw
          refine lv_iload hx hb dL_law_1039 (lv_at hl 1 rfl) ?_
          refine lv_icmp_eq (tgt := 1046) hx hb dL_law_1041 (by decide) (fun c152 => ?_) (fun c152 => ?_)
          · replace hp := hp.1 c152
            replace he := he.trans (if_pos c152)
            refine lv_iload hx hb dL_law_1046 (lv_at hl 1 rfl) ?_
            refine lv_if_ne (tgt := 1063) hx hb dL_law_1048 (by decide) (fun c153 => ?_) (fun c153 => ?_)
            · replace hp := hp.2 c153
              replace he := he.trans (if_neg c153)
              refine lv_goto (tgt := 1579) hx hb dL_law_1063 (by decide) ?_
              refine lv_iinc (v := (v23_4 + 3)) (lv' := [(4, .int (v23_4 + 3)), (6, .int r150), (5, .int r148), (3, .ref o0), (2, .ref q8), (1, .ref q0), (0, .ref b0)]) hx hb dL_law_1579 hl (k := 2) rfl rfl (by decide) rfl (fun ls hl => ?_)
              refine lv_goto (tgt := 23) hx hb dL_law_1582 (by decide) ?_
              refine W.widen (k := kc + 2) (n := ks + 9) (by omega) (by omega) ?_
              exact ih _ _ _ _ _ _ _ _ _ _ _ _ _ _ _ _ _ _ _ _ _ _ _ _ _ _ _ _ _ _ _ _ _ _ (kc + 2) (ks + 9) (by omega) (by omega) hp he _ _ hP hD hS _ (lv_sub hl [0, 3, 4, 5, 6] rfl)
            · replace hp := hp.1 c153
              replace he := he.trans (if_pos c153)
              refine lv_aload_n hx hb dL_law_1051 rfl (lv_at hl 3 rfl) ?_
              refine lv_iconst (v := 0) hx hb dL_law_1052 (by decide) ?_
              refine va_lald hx hb hK hP 28 1 rfl rfl (by decide) dL_law_1053 ?_
              refine lv_iload hx hb dL_law_1054 (lv_at hl 0 rfl) ?_
              refine lv_i2l (v := (r150).toInt64) hx hb dL_law_1056 rfl ?_
              refine W.lcmp hx hb dL_law_1057 ?_
              refine lv_if_eq (tgt := 1063) hx hb dL_law_1058 (by decide) (fun c155 => ?_) (fun c155 => ?_)
              · replace hp := hp.1 c155
                replace he := he.trans (if_pos c155)
                refine lv_goto (tgt := 1579) hx hb dL_law_1063 (by decide) ?_
                refine lv_iinc (v := (v23_4 + 3)) (lv' := [(4, .int (v23_4 + 3)), (6, .int r150), (5, .int r148), (3, .ref o0), (2, .ref q8), (1, .ref q0), (0, .ref b0)]) hx hb dL_law_1579 hl (k := 2) rfl rfl (by decide) rfl (fun ls hl => ?_)
                refine lv_goto (tgt := 23) hx hb dL_law_1582 (by decide) ?_
                refine W.widen (k := kc + 2) (n := ks + 9) (by omega) (by omega) ?_
                exact ih _ _ _ _ _ _ _ _ _ _ _ _ _ _ _ _ _ _ _ _ _ _ _ _ _ _ _ _ _ _ _ _ _ _ (kc + 2) (ks + 9) (by omega) (by omega) hp he _ _ hP hD hS _ (lv_sub hl [0, 3, 4, 5, 6] rfl)
              · replace hp := hp.2 c155
                replace he := he.trans (if_neg c155)
                refine lv_iconst (v := 0) hx hb dL_law_1061 (by decide) ?_
                exact absurd he (by decide)
          · replace hp := hp.2 c152
            replace he := he.trans (if_neg c152)
            refine lv_iconst (v := 0) hx hb dL_law_1044 (by decide) ?_
            exact absurd he (by decide)
        replace he := he.trans (if_neg s15)
        replace hp := hp.2 s15
        rcases Decidable.em (((xs (v23_4).toNatClampNeg) &&& 31) = 16) with s16 | s16
        · replace he := he.trans (if_pos s16)
          replace hp := hp.1 s16
          refine lv_tableIn (off := 1027) (tgt := 1066) hx hb dL_law_39 (by rw [s16]; decide) (by rw [s16]; decide) (by rw [s16]; rfl) (by decide) ?_
          refine lv_aload_n hx hb dL_law_1066 rfl (lv_at hl 3 rfl) ?_
          refine lv_aload_n hx hb dL_law_1067 rfl (lv_at hl 4 rfl) ?_
          refine lv_iload hx hb dL_law_1068 (lv_at hl 0 rfl) ?_
          refine lv_iconst (v := 1) hx hb dL_law_1070 (by decide) ?_
          refine lv_iadd hx hb dL_law_1071 ?_
          have h156 := hp.1
          replace hp := hp.2
          refine va_sld hx hb hX hbl hbA hS h156 dL_law_1072 ?_
          refine lv_aload_n hx hb dL_law_1073 rfl (lv_at hl 1 rfl) ?_
          have hq157 := hp.1
          replace hp := hp.2
          refine k_ycalli (S := LA) (wc := (W_O cI cJ q0 n1_0 n1_1 n1_2 n1_3 n1_4 n1_5 n1_6 n1_7 n1_8 n1_9 n1_10 n1_11 n1_12 n1_13 n1_14 o0 xr_23 xt_23 gn_23 gu_23 gb_23 ga_23 lc_23 lk_23 ln_23 lt_23 ll_23 lr_23 tw_23 tn_23 ts_23 tt_23 oo_23)) (wr := (W_X5 cI q8 n2_0 n2_1 n2_2 n2_3 n2_4 n2_5 n2_6 n2_7 n2_8 n2_9 n2_10 mr_23 mc_23 me_23 mw_23 mh_23 mn_23 mu_23 ms_23 mt_23 md_23 mz_23 mi_23 mk_23 mo_23 mj_23 ml_23)) (w1 := fun u => (W_O cI cJ q0 n1_0 n1_1 n1_2 n1_3 n1_4 n1_5 n1_6 n1_7 n1_8 n1_9 n1_10 n1_11 n1_12 n1_13 n1_14 o0 xr_23 xt_23 gn_23 gu_23 gb_23 ga_23 lc_23 lk_23 ln_23 lt_23 ll_23 lr_23 tw_23 tn_23 ts_23 tt_23 u)) (fun u => (W_L cI cJ q0 n1_0 n1_1 n1_2 n1_3 n1_4 n1_5 n1_6 n1_7 n1_8 n1_9 n1_10 n1_11 n1_12 n1_13 n1_14 q8 n2_0 n2_1 n2_2 n2_3 n2_4 n2_5 n2_6 n2_7 n2_8 n2_9 n2_10 o0 xr_23 xt_23 gn_23 gu_23 gb_23 ga_23 lc_23 lk_23 ln_23 lt_23 ll_23 lr_23 tw_23 tn_23 ts_23 tt_23 mr_23 mc_23 me_23 mw_23 mh_23 mn_23 mu_23 ms_23 mt_23 md_23 mz_23 mi_23 mk_23 mo_23 mj_23 ml_23 u)) hP hK hD hN hXB hS hA [0, 1, 2, 3, 4, 5, 6, 7, 8, 9, 10, 11, 12, 13, 14, 15, 28] [16, 17, 18, 19, 20, 21, 22, 23, 24, 25, 26, 27] rfl rfl (by decide) (by decide) (by decide) [12, 13, 14, 15, 16, 17, 18, 19, 20, 21, 22, 23, 24, 25, 26, 27, 0, 1, 2, 3, 4, 5, 6, 7, 8, 9, 10, 11, 28] (by decide) (fun _ => rfl) (fun hg => va_runS (As := [.ref q0, .int (xs ((v23_4 + 1)).toNatClampNeg), .ref o0]) (rest := []) ⟨hx, hb, hml, hown, hts⟩ (c_L_eventLength l D cI cJ q0 n1_0 n1_1 n1_2 n1_3 n1_4 n1_5 n1_6 n1_7 n1_8 n1_9 n1_10 n1_11 n1_12 n1_13 n1_14 o0 xr_23 xt_23 gn_23 gu_23 gb_23 ga_23 lc_23 lk_23 ln_23 lt_23 ll_23 lr_23 tw_23 tn_23 ts_23 tt_23 oo_23 _ (xs ((v23_4 + 1)).toNatClampNeg) hq157 hst) (va_cwS 3 hts gL_law_L_eventLength rfl rfl rfl (by decide +kernel) ⟨Nat.le_of_ble_eq_true rfl, Nat.le_of_ble_eq_true rfl⟩) ⟨PX.blind, fun U hU hW => ⟨rfl, hg U hU hW⟩⟩ rfl rfl hl.1 rfl (lv_room (Nat.le_of_ble_eq_true rfl)) dL_law_1074 ⟨(show kc + 1 ≤ 601024 from by omega), (show ks + 6 ≤ 7293034 from by omega)⟩) (fun r157 u H locs hw hP hD hS => ?_)
          obtain ⟨u157_0, rfl⟩ : ∃ z, z = u := ⟨_, rfl⟩
          rw [hw] at he
          try dsimp only at he
          replace hp := hp r157 u157_0 hw
          have hP : va_P D vwCl (W_L cI cJ q0 n1_0 n1_1 n1_2 n1_3 n1_4 n1_5 n1_6 n1_7 n1_8 n1_9 n1_10 n1_11 n1_12 n1_13 n1_14 q8 n2_0 n2_1 n2_2 n2_3 n2_4 n2_5 n2_6 n2_7 n2_8 n2_9 n2_10 o0 xr_23 xt_23 gn_23 gu_23 gb_23 ga_23 lc_23 lk_23 ln_23 lt_23 ll_23 lr_23 tw_23 tn_23 ts_23 tt_23 mr_23 mc_23 me_23 mw_23 mh_23 mn_23 mu_23 ms_23 mt_23 md_23 mz_23 mi_23 mk_23 mo_23 mj_23 ml_23 u157_0) H := hP
          have hD : va_D A (W_L cI cJ q0 n1_0 n1_1 n1_2 n1_3 n1_4 n1_5 n1_6 n1_7 n1_8 n1_9 n1_10 n1_11 n1_12 n1_13 n1_14 q8 n2_0 n2_1 n2_2 n2_3 n2_4 n2_5 n2_6 n2_7 n2_8 n2_9 n2_10 o0 xr_23 xt_23 gn_23 gu_23 gb_23 ga_23 lc_23 lk_23 ln_23 lt_23 ll_23 lr_23 tw_23 tn_23 ts_23 tt_23 mr_23 mc_23 me_23 mw_23 mh_23 mn_23 mu_23 ms_23 mt_23 md_23 mz_23 mi_23 mk_23 mo_23 mj_23 ml_23 u157_0) := hD
          refine lv_istore (lv' := [(5, .int r157), (4, .int v23_4), (3, .ref o0), (2, .ref q8), (1, .ref q0), (0, .ref b0)]) hx hb dL_law_1077 hl (by decide) rfl (fun ls hl => ?_)
          refine lv_aload_n hx hb dL_law_1079 rfl (lv_at hl 3 rfl) ?_
          refine lv_aload_n hx hb dL_law_1080 rfl (lv_at hl 5 rfl) ?_
          refine lv_iload hx hb dL_law_1081 (lv_at hl 1 rfl) ?_
          refine lv_iconst (v := 1) hx hb dL_law_1083 (by decide) ?_
          refine lv_iadd hx hb dL_law_1084 ?_
          have h158 := hp.1
          replace hp := hp.2
          refine va_sld hx hb hX hbl hbA hS h158 dL_law_1085 ?_
          have hq159 := hp.1
          replace hp := hp.2
          refine k_calli (S := Int32) (wc := (W_X5 cI q8 n2_0 n2_1 n2_2 n2_3 n2_4 n2_5 n2_6 n2_7 n2_8 n2_9 n2_10 mr_23 mc_23 me_23 mw_23 mh_23 mn_23 mu_23 ms_23 mt_23 md_23 mz_23 mi_23 mk_23 mo_23 mj_23 ml_23)) (wr := (W_O cI cJ q0 n1_0 n1_1 n1_2 n1_3 n1_4 n1_5 n1_6 n1_7 n1_8 n1_9 n1_10 n1_11 n1_12 n1_13 n1_14 o0 xr_23 xt_23 gn_23 gu_23 gb_23 ga_23 lc_23 lk_23 ln_23 lt_23 ll_23 lr_23 tw_23 tn_23 ts_23 tt_23 u157_0)) (w1 := fun u => (W_X5 cI q8 n2_0 n2_1 n2_2 n2_3 n2_4 n2_5 n2_6 n2_7 n2_8 n2_9 n2_10 mr_23 mc_23 me_23 mw_23 u mn_23 mu_23 ms_23 mt_23 md_23 mz_23 mi_23 mk_23 mo_23 mj_23 ml_23)) (fun u => (W_L cI cJ q0 n1_0 n1_1 n1_2 n1_3 n1_4 n1_5 n1_6 n1_7 n1_8 n1_9 n1_10 n1_11 n1_12 n1_13 n1_14 q8 n2_0 n2_1 n2_2 n2_3 n2_4 n2_5 n2_6 n2_7 n2_8 n2_9 n2_10 o0 xr_23 xt_23 gn_23 gu_23 gb_23 ga_23 lc_23 lk_23 ln_23 lt_23 ll_23 lr_23 tw_23 tn_23 ts_23 tt_23 mr_23 mc_23 me_23 mw_23 u mn_23 mu_23 ms_23 mt_23 md_23 mz_23 mi_23 mk_23 mo_23 mj_23 ml_23 u157_0)) hP hK hD hN hS hA [16, 17, 18, 19, 20, 21, 22, 23, 24, 25, 26, 27] [0, 1, 2, 3, 4, 5, 6, 7, 8, 9, 10, 11, 12, 13, 14, 15, 28] rfl rfl (by decide) (by decide) (by decide) [0, 1, 2, 3, 4, 5, 6, 7, 8, 9, 10, 11, 12, 13, 14, 15, 17, 18, 19, 20, 21, 22, 23, 24, 25, 26, 27, 28, 16] (by decide) (fun _ => rfl) (fun hg => va_runV (As := [.int (xs ((v23_4 + 1)).toNatClampNeg)]) (rest := []) ⟨hx, hb, hml, hown, hts⟩ (c_X5_eventLength l D cI q8 n2_0 n2_1 n2_2 n2_3 n2_4 n2_5 n2_6 n2_7 n2_8 n2_9 n2_10 mr_23 mc_23 me_23 mw_23 mh_23 mn_23 mu_23 ms_23 mt_23 md_23 mz_23 mi_23 mk_23 mo_23 mj_23 ml_23 _ (xs ((v23_4 + 1)).toNatClampNeg) hq159) (cwV 1 hts gL_law_X5_eventLength rfl rfl rfl (by decide +kernel) ⟨Nat.le_of_ble_eq_true rfl, Nat.le_of_ble_eq_true rfl⟩) ⟨PW.blind, va_recv hK hP (ci := 5) (q0 := 16) rfl rfl, fun U hU hW => ⟨rfl, hg U hU hW⟩⟩ rfl rfl hl.1 rfl (lv_room (Nat.le_of_ble_eq_true rfl)) dL_law_1086 ⟨(show (kc + 1) + 0 ≤ 601024 from by omega), (show (ks + 6) + 0 ≤ 7293034 from by omega)⟩) (fun r159 u H locs hw hP hD hS => ?_)
          obtain ⟨u159_0, rfl⟩ : ∃ z, z = u := ⟨_, rfl⟩
          rw [hw] at he
          try dsimp only at he
          replace hp := hp r159 u159_0 hw
          have hP : va_P D vwCl (W_L cI cJ q0 n1_0 n1_1 n1_2 n1_3 n1_4 n1_5 n1_6 n1_7 n1_8 n1_9 n1_10 n1_11 n1_12 n1_13 n1_14 q8 n2_0 n2_1 n2_2 n2_3 n2_4 n2_5 n2_6 n2_7 n2_8 n2_9 n2_10 o0 xr_23 xt_23 gn_23 gu_23 gb_23 ga_23 lc_23 lk_23 ln_23 lt_23 ll_23 lr_23 tw_23 tn_23 ts_23 tt_23 mr_23 mc_23 me_23 mw_23 u159_0 mn_23 mu_23 ms_23 mt_23 md_23 mz_23 mi_23 mk_23 mo_23 mj_23 ml_23 u157_0) H := hP
          have hD : va_D A (W_L cI cJ q0 n1_0 n1_1 n1_2 n1_3 n1_4 n1_5 n1_6 n1_7 n1_8 n1_9 n1_10 n1_11 n1_12 n1_13 n1_14 q8 n2_0 n2_1 n2_2 n2_3 n2_4 n2_5 n2_6 n2_7 n2_8 n2_9 n2_10 o0 xr_23 xt_23 gn_23 gu_23 gb_23 ga_23 lc_23 lk_23 ln_23 lt_23 ll_23 lr_23 tw_23 tn_23 ts_23 tt_23 mr_23 mc_23 me_23 mw_23 u159_0 mn_23 mu_23 ms_23 mt_23 md_23 mz_23 mi_23 mk_23 mo_23 mj_23 ml_23 u157_0) := hD
          refine lv_istore (lv' := [(6, .int r159), (5, .int r157), (4, .int v23_4), (3, .ref o0), (2, .ref q8), (1, .ref q0), (0, .ref b0)]) hx hb dL_law_1089 hl (by decide) rfl (fun ls hl => ?_)
          refine lv_aload_n hx hb dL_law_1091 rfl (lv_at hl 4 rfl) ?_
          refine k_calli (S := Unit) (wc := (W_X5 cI q8 n2_0 n2_1 n2_2 n2_3 n2_4 n2_5 n2_6 n2_7 n2_8 n2_9 n2_10 mr_23 mc_23 me_23 mw_23 u159_0 mn_23 mu_23 ms_23 mt_23 md_23 mz_23 mi_23 mk_23 mo_23 mj_23 ml_23)) (wr := (W_O cI cJ q0 n1_0 n1_1 n1_2 n1_3 n1_4 n1_5 n1_6 n1_7 n1_8 n1_9 n1_10 n1_11 n1_12 n1_13 n1_14 o0 xr_23 xt_23 gn_23 gu_23 gb_23 ga_23 lc_23 lk_23 ln_23 lt_23 ll_23 lr_23 tw_23 tn_23 ts_23 tt_23 u157_0)) (w1 := fun u => (W_X5 cI q8 n2_0 n2_1 n2_2 n2_3 n2_4 n2_5 n2_6 n2_7 n2_8 n2_9 n2_10 mr_23 mc_23 me_23 mw_23 u159_0 mn_23 mu_23 ms_23 mt_23 md_23 mz_23 mi_23 mk_23 mo_23 mj_23 ml_23)) (fun u => (W_L cI cJ q0 n1_0 n1_1 n1_2 n1_3 n1_4 n1_5 n1_6 n1_7 n1_8 n1_9 n1_10 n1_11 n1_12 n1_13 n1_14 q8 n2_0 n2_1 n2_2 n2_3 n2_4 n2_5 n2_6 n2_7 n2_8 n2_9 n2_10 o0 xr_23 xt_23 gn_23 gu_23 gb_23 ga_23 lc_23 lk_23 ln_23 lt_23 ll_23 lr_23 tw_23 tn_23 ts_23 tt_23 mr_23 mc_23 me_23 mw_23 u159_0 mn_23 mu_23 ms_23 mt_23 md_23 mz_23 mi_23 mk_23 mo_23 mj_23 ml_23 u157_0)) hP hK hD hN hS hA [16, 17, 18, 19, 20, 21, 22, 23, 24, 25, 26, 27] [0, 1, 2, 3, 4, 5, 6, 7, 8, 9, 10, 11, 12, 13, 14, 15, 28] rfl rfl (by decide) (by decide) (by decide) [0, 1, 2, 3, 4, 5, 6, 7, 8, 9, 10, 11, 12, 13, 14, 15, 17, 18, 19, 20, 21, 22, 23, 24, 25, 26, 27, 28, 16] (by decide) (fun _ => rfl) (fun hg => va_runV (As := []) (rest := []) ⟨hx, hb, hml, hown, hts⟩ (c_X5_thrown l D cI q8 n2_0 n2_1 n2_2 n2_3 n2_4 n2_5 n2_6 n2_7 n2_8 n2_9 n2_10 mr_23 mc_23 me_23 mw_23 u159_0 mn_23 mu_23 ms_23 mt_23 md_23 mz_23 mi_23 mk_23 mo_23 mj_23 ml_23 _ ) (cwV 0 hts gL_law_X5_thrown rfl rfl rfl (by decide +kernel) ⟨Nat.le_of_ble_eq_true rfl, Nat.le_of_ble_eq_true rfl⟩) ⟨PW.blind, va_recv hK hP (ci := 5) (q0 := 16) rfl rfl, fun U hU hW => ⟨rfl, hg U hU hW⟩⟩ rfl rfl hl.1 rfl (lv_room (Nat.le_of_ble_eq_true rfl)) dL_law_1092 ⟨(show (kc + 1) + 0 ≤ 601024 from by omega), (show (ks + 6) + 0 ≤ 7293034 from by omega)⟩) (fun r160 u H locs hw hP hD hS => ?_)
          subst hw
          refine lv_iload hx hb dL_law_1095 (lv_at hl 1 rfl) ?_
          refine lv_icmp_eq (tgt := 1102) hx hb dL_law_1097 (by decide) (fun c161 => ?_) (fun c161 => ?_)
          · replace hp := hp.1 c161
            replace he := he.trans (if_pos c161)
            refine lv_iload hx hb dL_law_1102 (lv_at hl 1 rfl) ?_
            refine lv_if_ne (tgt := 1119) hx hb dL_law_1104 (by decide) (fun c162 => ?_) (fun c162 => ?_)
            · replace hp := hp.2 c162
              replace he := he.trans (if_neg c162)
              refine lv_goto (tgt := 1579) hx hb dL_law_1119 (by decide) ?_
              refine lv_iinc (v := (v23_4 + 3)) (lv' := [(4, .int (v23_4 + 3)), (6, .int r159), (5, .int r157), (3, .ref o0), (2, .ref q8), (1, .ref q0), (0, .ref b0)]) hx hb dL_law_1579 hl (k := 2) rfl rfl (by decide) rfl (fun ls hl => ?_)
              refine lv_goto (tgt := 23) hx hb dL_law_1582 (by decide) ?_
              refine W.widen (k := kc + 2) (n := ks + 9) (by omega) (by omega) ?_
              exact ih _ _ _ _ _ _ _ _ _ _ _ _ _ _ _ _ _ _ _ _ _ _ _ _ _ _ _ _ _ _ _ _ _ _ (kc + 2) (ks + 9) (by omega) (by omega) hp he _ _ hP hD hS _ (lv_sub hl [0, 3, 4, 5, 6] rfl)
            · replace hp := hp.1 c162
              replace he := he.trans (if_pos c162)
              refine lv_aload_n hx hb dL_law_1107 rfl (lv_at hl 3 rfl) ?_
              refine lv_iconst (v := 0) hx hb dL_law_1108 (by decide) ?_
              refine va_lald hx hb hK hP 28 1 rfl rfl (by decide) dL_law_1109 ?_
              refine lv_iload hx hb dL_law_1110 (lv_at hl 0 rfl) ?_
              refine lv_i2l (v := (r159).toInt64) hx hb dL_law_1112 rfl ?_
              refine W.lcmp hx hb dL_law_1113 ?_
              refine lv_if_eq (tgt := 1119) hx hb dL_law_1114 (by decide) (fun c164 => ?_) (fun c164 => ?_)
              · replace hp := hp.1 c164
                replace he := he.trans (if_pos c164)
                refine lv_goto (tgt := 1579) hx hb dL_law_1119 (by decide) ?_
                refine lv_iinc (v := (v23_4 + 3)) (lv' := [(4, .int (v23_4 + 3)), (6, .int r159), (5, .int r157), (3, .ref o0), (2, .ref q8), (1, .ref q0), (0, .ref b0)]) hx hb dL_law_1579 hl (k := 2) rfl rfl (by decide) rfl (fun ls hl => ?_)
                refine lv_goto (tgt := 23) hx hb dL_law_1582 (by decide) ?_
                refine W.widen (k := kc + 2) (n := ks + 9) (by omega) (by omega) ?_
                exact ih _ _ _ _ _ _ _ _ _ _ _ _ _ _ _ _ _ _ _ _ _ _ _ _ _ _ _ _ _ _ _ _ _ _ (kc + 2) (ks + 9) (by omega) (by omega) hp he _ _ hP hD hS _ (lv_sub hl [0, 3, 4, 5, 6] rfl)
              · replace hp := hp.2 c164
                replace he := he.trans (if_neg c164)
                refine lv_iconst (v := 0) hx hb dL_law_1117 (by decide) ?_
                exact absurd he (by decide)
          · replace hp := hp.2 c161
            replace he := he.trans (if_neg c161)
            refine lv_iconst (v := 0) hx hb dL_law_1100 (by decide) ?_
            exact absurd he (by decide)
        replace he := he.trans (if_neg s16)
        replace hp := hp.2 s16
        rcases Decidable.em (((xs (v23_4).toNatClampNeg) &&& 31) = 17) with s17 | s17
        · replace he := he.trans (if_pos s17)
          replace hp := hp.1 s17
          refine lv_tableIn (off := 1083) (tgt := 1122) hx hb dL_law_39 (by rw [s17]; decide) (by rw [s17]; decide) (by rw [s17]; rfl) (by decide) ?_
          refine lv_aload_n hx hb dL_law_1122 rfl (lv_at hl 3 rfl) ?_
          have hq165 := hp.1
          replace hp := hp.2
          refine k_calli (S := Unit) (wc := (W_X4 cI q0 n1_0 n1_1 n1_2 n1_3 n1_4 n1_5 n1_6 n1_7 n1_8 n1_9 n1_10 n1_11 n1_12 n1_13 n1_14 xr_23 xt_23 gn_23 gu_23 gb_23 ga_23 lc_23 lk_23 ln_23 lt_23 ll_23 lr_23 tw_23 tn_23 ts_23 tt_23)) (wr := ((W_X5 cI q8 n2_0 n2_1 n2_2 n2_3 n2_4 n2_5 n2_6 n2_7 n2_8 n2_9 n2_10 mr_23 mc_23 me_23 mw_23 mh_23 mn_23 mu_23 ms_23 mt_23 md_23 mz_23 mi_23 mk_23 mo_23 mj_23 ml_23) ++ [(o0, .inl (cJ, 1, .inr (.inl oo_23)))])) (w1 := fun u => (W_X4 cI q0 n1_0 n1_1 n1_2 n1_3 n1_4 n1_5 n1_6 n1_7 n1_8 n1_9 n1_10 n1_11 n1_12 n1_13 n1_14 xr_23 xt_23 gn_23 gu_23 gb_23 ga_23 lc_23 lk_23 ln_23 lt_23 ll_23 lr_23 tw_23 tn_23 ts_23 tt_23)) (fun u => (W_L cI cJ q0 n1_0 n1_1 n1_2 n1_3 n1_4 n1_5 n1_6 n1_7 n1_8 n1_9 n1_10 n1_11 n1_12 n1_13 n1_14 q8 n2_0 n2_1 n2_2 n2_3 n2_4 n2_5 n2_6 n2_7 n2_8 n2_9 n2_10 o0 xr_23 xt_23 gn_23 gu_23 gb_23 ga_23 lc_23 lk_23 ln_23 lt_23 ll_23 lr_23 tw_23 tn_23 ts_23 tt_23 mr_23 mc_23 me_23 mw_23 mh_23 mn_23 mu_23 ms_23 mt_23 md_23 mz_23 mi_23 mk_23 mo_23 mj_23 ml_23 oo_23)) hP hK hD hN hS hA [0, 1, 2, 3, 4, 5, 6, 7, 8, 9, 10, 11, 12, 13, 14, 15] [16, 17, 18, 19, 20, 21, 22, 23, 24, 25, 26, 27, 28] rfl rfl (by decide) (by decide) (by decide) [13, 14, 15, 16, 17, 18, 19, 20, 21, 22, 23, 24, 25, 26, 27, 28, 0, 1, 2, 3, 4, 5, 6, 7, 8, 9, 10, 11, 12] (by decide) (fun _ => rfl) (fun hg => va_runV (As := []) (rest := []) ⟨hx, hb, hml, hown, hts⟩ (c_X4_openTickets l D cI q0 n1_0 n1_1 n1_2 n1_3 n1_4 n1_5 n1_6 n1_7 n1_8 n1_9 n1_10 n1_11 n1_12 n1_13 n1_14 xr_23 xt_23 gn_23 gu_23 gb_23 ga_23 lc_23 lk_23 ln_23 lt_23 ll_23 lr_23 tw_23 tn_23 ts_23 tt_23 _ hq165) (cwV 0 hts gL_law_X4_openTickets rfl rfl rfl (by decide +kernel) ⟨Nat.le_of_ble_eq_true rfl, Nat.le_of_ble_eq_true rfl⟩) ⟨PW.blind, va_recv hK hP (ci := 4) (q0 := 0) rfl rfl, fun U hU hW => ⟨rfl, hg U hU hW⟩⟩ rfl rfl hl.1 rfl (lv_room (Nat.le_of_ble_eq_true rfl)) dL_law_1123 ⟨(show kc + 0 ≤ 601024 from by omega), (show ks + 0 ≤ 7293034 from by omega)⟩) (fun r165 u H locs hw hP hD hS => ?_)
          subst hw
          refine lv_aload_n hx hb dL_law_1126 rfl (lv_at hl 2 rfl) ?_
          have hq166 := hp.1
          replace hp := hp.2
          refine k_calli (S := Int32) (wc := (W_X5 cI q8 n2_0 n2_1 n2_2 n2_3 n2_4 n2_5 n2_6 n2_7 n2_8 n2_9 n2_10 mr_23 mc_23 me_23 mw_23 mh_23 mn_23 mu_23 ms_23 mt_23 md_23 mz_23 mi_23 mk_23 mo_23 mj_23 ml_23)) (wr := (W_O cI cJ q0 n1_0 n1_1 n1_2 n1_3 n1_4 n1_5 n1_6 n1_7 n1_8 n1_9 n1_10 n1_11 n1_12 n1_13 n1_14 o0 xr_23 xt_23 gn_23 gu_23 gb_23 ga_23 lc_23 lk_23 ln_23 lt_23 ll_23 lr_23 tw_23 tn_23 ts_23 tt_23 oo_23)) (w1 := fun u => (W_X5 cI q8 n2_0 n2_1 n2_2 n2_3 n2_4 n2_5 n2_6 n2_7 n2_8 n2_9 n2_10 mr_23 mc_23 me_23 mw_23 u mn_23 mu_23 ms_23 mt_23 md_23 mz_23 mi_23 mk_23 mo_23 mj_23 ml_23)) (fun u => (W_L cI cJ q0 n1_0 n1_1 n1_2 n1_3 n1_4 n1_5 n1_6 n1_7 n1_8 n1_9 n1_10 n1_11 n1_12 n1_13 n1_14 q8 n2_0 n2_1 n2_2 n2_3 n2_4 n2_5 n2_6 n2_7 n2_8 n2_9 n2_10 o0 xr_23 xt_23 gn_23 gu_23 gb_23 ga_23 lc_23 lk_23 ln_23 lt_23 ll_23 lr_23 tw_23 tn_23 ts_23 tt_23 mr_23 mc_23 me_23 mw_23 u mn_23 mu_23 ms_23 mt_23 md_23 mz_23 mi_23 mk_23 mo_23 mj_23 ml_23 oo_23)) hP hK hD hN hS hA [16, 17, 18, 19, 20, 21, 22, 23, 24, 25, 26, 27] [0, 1, 2, 3, 4, 5, 6, 7, 8, 9, 10, 11, 12, 13, 14, 15, 28] rfl rfl (by decide) (by decide) (by decide) [0, 1, 2, 3, 4, 5, 6, 7, 8, 9, 10, 11, 12, 13, 14, 15, 17, 18, 19, 20, 21, 22, 23, 24, 25, 26, 27, 28, 16] (by decide) (fun _ => rfl) (fun hg => va_runV (As := []) (rest := [.int (f_X4_openTickets tw_23 ts_23 tt_23)]) ⟨hx, hb, hml, hown, hts⟩ (c_X5_openTickets l D cI q8 n2_0 n2_1 n2_2 n2_3 n2_4 n2_5 n2_6 n2_7 n2_8 n2_9 n2_10 mr_23 mc_23 me_23 mw_23 mh_23 mn_23 mu_23 ms_23 mt_23 md_23 mz_23 mi_23 mk_23 mo_23 mj_23 ml_23 _ hq166) (cwV 0 hts gL_law_X5_openTickets rfl rfl rfl (by decide +kernel) ⟨Nat.le_of_ble_eq_true rfl, Nat.le_of_ble_eq_true rfl⟩) ⟨PW.blind, va_recv hK hP (ci := 5) (q0 := 16) rfl rfl, fun U hU hW => ⟨rfl, hg U hU hW⟩⟩ rfl rfl hl.1 rfl (lv_room (Nat.le_of_ble_eq_true rfl)) dL_law_1127 ⟨(show kc + 0 ≤ 601024 from by omega), (show ks + 0 ≤ 7293034 from by omega)⟩) (fun r166 u H locs hw hP hD hS => ?_)
          obtain ⟨u166_0, rfl⟩ : ∃ z, z = u := ⟨_, rfl⟩
          rw [hw] at he
          try dsimp only at he
          replace hp := hp r166 u166_0 hw
          have hP : va_P D vwCl (W_L cI cJ q0 n1_0 n1_1 n1_2 n1_3 n1_4 n1_5 n1_6 n1_7 n1_8 n1_9 n1_10 n1_11 n1_12 n1_13 n1_14 q8 n2_0 n2_1 n2_2 n2_3 n2_4 n2_5 n2_6 n2_7 n2_8 n2_9 n2_10 o0 xr_23 xt_23 gn_23 gu_23 gb_23 ga_23 lc_23 lk_23 ln_23 lt_23 ll_23 lr_23 tw_23 tn_23 ts_23 tt_23 mr_23 mc_23 me_23 mw_23 u166_0 mn_23 mu_23 ms_23 mt_23 md_23 mz_23 mi_23 mk_23 mo_23 mj_23 ml_23 oo_23) H := hP
          have hD : va_D A (W_L cI cJ q0 n1_0 n1_1 n1_2 n1_3 n1_4 n1_5 n1_6 n1_7 n1_8 n1_9 n1_10 n1_11 n1_12 n1_13 n1_14 q8 n2_0 n2_1 n2_2 n2_3 n2_4 n2_5 n2_6 n2_7 n2_8 n2_9 n2_10 o0 xr_23 xt_23 gn_23 gu_23 gb_23 ga_23 lc_23 lk_23 ln_23 lt_23 ll_23 lr_23 tw_23 tn_23 ts_23 tt_23 mr_23 mc_23 me_23 mw_23 u166_0 mn_23 mu_23 ms_23 mt_23 md_23 mz_23 mi_23 mk_23 mo_23 mj_23 ml_23 oo_23) := hD
          refine lv_icmp_eq (tgt := 1579) hx hb dL_law_1130 (by decide) (fun c167 => ?_) (fun c167 => ?_)
          · replace hp := hp.1 c167
            replace he := he.trans (if_pos c167)
            refine lv_iinc (v := (v23_4 + 3)) (lv' := [(4, .int (v23_4 + 3)), (3, .ref o0), (2, .ref q8), (1, .ref q0), (0, .ref b0)]) hx hb dL_law_1579 hl (k := 0) rfl rfl (by decide) rfl (fun ls hl => ?_)
            refine lv_goto (tgt := 23) hx hb dL_law_1582 (by decide) ?_
            refine W.widen (k := kc + 2) (n := ks + 9) (by omega) (by omega) ?_
            exact ih _ _ _ _ _ _ _ _ _ _ _ _ _ _ _ _ _ _ _ _ _ _ _ _ _ _ _ _ _ _ _ _ _ _ (kc + 2) (ks + 9) (by omega) (by omega) hp he _ _ hP hD hS _ (lv_sub hl [0, 1, 2, 3, 4] rfl)
          · replace hp := hp.2 c167
            replace he := he.trans (if_neg c167)
            refine lv_iconst (v := 0) hx hb dL_law_1133 (by decide) ?_
            exact absurd he (by decide)
        replace he := he.trans (if_neg s17)
        replace hp := hp.2 s17
        rcases Decidable.em (((xs (v23_4).toNatClampNeg) &&& 31) = 18) with s18 | s18
        · replace he := he.trans (if_pos s18)
          replace hp := hp.1 s18
          refine lv_tableIn (off := 1096) (tgt := 1135) hx hb dL_law_39 (by rw [s18]; decide) (by rw [s18]; decide) (by rw [s18]; rfl) (by decide) ?_
          refine lv_aload_n hx hb dL_law_1135 rfl (lv_at hl 3 rfl) ?_
          refine lv_aload_n hx hb dL_law_1136 rfl (lv_at hl 4 rfl) ?_
          refine lv_iload hx hb dL_law_1137 (lv_at hl 0 rfl) ?_
          refine lv_iconst (v := 1) hx hb dL_law_1139 (by decide) ?_
          refine lv_iadd hx hb dL_law_1140 ?_
          have h168 := hp.1
          replace hp := hp.2
          refine va_sld hx hb hX hbl hbA hS h168 dL_law_1141 ?_
          refine lv_aload_n hx hb dL_law_1142 rfl (lv_at hl 1 rfl) ?_
          have hq169 := hp.1
          replace hp := hp.2
          refine k_ycalli (S := LA) (wc := (W_O cI cJ q0 n1_0 n1_1 n1_2 n1_3 n1_4 n1_5 n1_6 n1_7 n1_8 n1_9 n1_10 n1_11 n1_12 n1_13 n1_14 o0 xr_23 xt_23 gn_23 gu_23 gb_23 ga_23 lc_23 lk_23 ln_23 lt_23 ll_23 lr_23 tw_23 tn_23 ts_23 tt_23 oo_23)) (wr := (W_X5 cI q8 n2_0 n2_1 n2_2 n2_3 n2_4 n2_5 n2_6 n2_7 n2_8 n2_9 n2_10 mr_23 mc_23 me_23 mw_23 mh_23 mn_23 mu_23 ms_23 mt_23 md_23 mz_23 mi_23 mk_23 mo_23 mj_23 ml_23)) (w1 := fun u => (W_O cI cJ q0 n1_0 n1_1 n1_2 n1_3 n1_4 n1_5 n1_6 n1_7 n1_8 n1_9 n1_10 n1_11 n1_12 n1_13 n1_14 o0 xr_23 xt_23 gn_23 gu_23 gb_23 ga_23 lc_23 lk_23 ln_23 lt_23 ll_23 lr_23 tw_23 tn_23 ts_23 tt_23 u)) (fun u => (W_L cI cJ q0 n1_0 n1_1 n1_2 n1_3 n1_4 n1_5 n1_6 n1_7 n1_8 n1_9 n1_10 n1_11 n1_12 n1_13 n1_14 q8 n2_0 n2_1 n2_2 n2_3 n2_4 n2_5 n2_6 n2_7 n2_8 n2_9 n2_10 o0 xr_23 xt_23 gn_23 gu_23 gb_23 ga_23 lc_23 lk_23 ln_23 lt_23 ll_23 lr_23 tw_23 tn_23 ts_23 tt_23 mr_23 mc_23 me_23 mw_23 mh_23 mn_23 mu_23 ms_23 mt_23 md_23 mz_23 mi_23 mk_23 mo_23 mj_23 ml_23 u)) hP hK hD hN hXB hS hA [0, 1, 2, 3, 4, 5, 6, 7, 8, 9, 10, 11, 12, 13, 14, 15, 28] [16, 17, 18, 19, 20, 21, 22, 23, 24, 25, 26, 27] rfl rfl (by decide) (by decide) (by decide) [12, 13, 14, 15, 16, 17, 18, 19, 20, 21, 22, 23, 24, 25, 26, 27, 0, 1, 2, 3, 4, 5, 6, 7, 8, 9, 10, 11, 28] (by decide) (fun _ => rfl) (fun hg => va_runS (As := [.ref q0, .int (xs ((v23_4 + 1)).toNatClampNeg), .ref o0]) (rest := []) ⟨hx, hb, hml, hown, hts⟩ (c_L_ticketOf l D cI cJ q0 n1_0 n1_1 n1_2 n1_3 n1_4 n1_5 n1_6 n1_7 n1_8 n1_9 n1_10 n1_11 n1_12 n1_13 n1_14 o0 xr_23 xt_23 gn_23 gu_23 gb_23 ga_23 lc_23 lk_23 ln_23 lt_23 ll_23 lr_23 tw_23 tn_23 ts_23 tt_23 oo_23 _ (xs ((v23_4 + 1)).toNatClampNeg) hq169 hst) (va_cwS 3 hts gL_law_L_ticketOf rfl rfl rfl (by decide +kernel) ⟨Nat.le_of_ble_eq_true rfl, Nat.le_of_ble_eq_true rfl⟩) ⟨PX.blind, fun U hU hW => ⟨rfl, hg U hU hW⟩⟩ rfl rfl hl.1 rfl (lv_room (Nat.le_of_ble_eq_true rfl)) dL_law_1143 ⟨(show kc + 1 ≤ 601024 from by omega), (show ks + 6 ≤ 7293034 from by omega)⟩) (fun r169 u H locs hw hP hD hS => ?_)
          obtain ⟨u169_0, rfl⟩ : ∃ z, z = u := ⟨_, rfl⟩
          rw [hw] at he
          try dsimp only at he
          replace hp := hp r169 u169_0 hw
          have hP : va_P D vwCl (W_L cI cJ q0 n1_0 n1_1 n1_2 n1_3 n1_4 n1_5 n1_6 n1_7 n1_8 n1_9 n1_10 n1_11 n1_12 n1_13 n1_14 q8 n2_0 n2_1 n2_2 n2_3 n2_4 n2_5 n2_6 n2_7 n2_8 n2_9 n2_10 o0 xr_23 xt_23 gn_23 gu_23 gb_23 ga_23 lc_23 lk_23 ln_23 lt_23 ll_23 lr_23 tw_23 tn_23 ts_23 tt_23 mr_23 mc_23 me_23 mw_23 mh_23 mn_23 mu_23 ms_23 mt_23 md_23 mz_23 mi_23 mk_23 mo_23 mj_23 ml_23 u169_0) H := hP
          have hD : va_D A (W_L cI cJ q0 n1_0 n1_1 n1_2 n1_3 n1_4 n1_5 n1_6 n1_7 n1_8 n1_9 n1_10 n1_11 n1_12 n1_13 n1_14 q8 n2_0 n2_1 n2_2 n2_3 n2_4 n2_5 n2_6 n2_7 n2_8 n2_9 n2_10 o0 xr_23 xt_23 gn_23 gu_23 gb_23 ga_23 lc_23 lk_23 ln_23 lt_23 ll_23 lr_23 tw_23 tn_23 ts_23 tt_23 mr_23 mc_23 me_23 mw_23 mh_23 mn_23 mu_23 ms_23 mt_23 md_23 mz_23 mi_23 mk_23 mo_23 mj_23 ml_23 u169_0) := hD
          refine lv_istore (lv' := [(5, .int r169), (4, .int v23_4), (3, .ref o0), (2, .ref q8), (1, .ref q0), (0, .ref b0)]) hx hb dL_law_1146 hl (by decide) rfl (fun ls hl => ?_)
          refine lv_aload_n hx hb dL_law_1148 rfl (lv_at hl 3 rfl) ?_
          refine lv_aload_n hx hb dL_law_1149 rfl (lv_at hl 5 rfl) ?_
          refine lv_iload hx hb dL_law_1150 (lv_at hl 1 rfl) ?_
          refine lv_iconst (v := 1) hx hb dL_law_1152 (by decide) ?_
          refine lv_iadd hx hb dL_law_1153 ?_
          have h170 := hp.1
          replace hp := hp.2
          refine va_sld hx hb hX hbl hbA hS h170 dL_law_1154 ?_
          have hq171 := hp.1
          replace hp := hp.2
          refine k_calli (S := Int32) (wc := (W_X5 cI q8 n2_0 n2_1 n2_2 n2_3 n2_4 n2_5 n2_6 n2_7 n2_8 n2_9 n2_10 mr_23 mc_23 me_23 mw_23 mh_23 mn_23 mu_23 ms_23 mt_23 md_23 mz_23 mi_23 mk_23 mo_23 mj_23 ml_23)) (wr := (W_O cI cJ q0 n1_0 n1_1 n1_2 n1_3 n1_4 n1_5 n1_6 n1_7 n1_8 n1_9 n1_10 n1_11 n1_12 n1_13 n1_14 o0 xr_23 xt_23 gn_23 gu_23 gb_23 ga_23 lc_23 lk_23 ln_23 lt_23 ll_23 lr_23 tw_23 tn_23 ts_23 tt_23 u169_0)) (w1 := fun u => (W_X5 cI q8 n2_0 n2_1 n2_2 n2_3 n2_4 n2_5 n2_6 n2_7 n2_8 n2_9 n2_10 mr_23 mc_23 me_23 mw_23 u mn_23 mu_23 ms_23 mt_23 md_23 mz_23 mi_23 mk_23 mo_23 mj_23 ml_23)) (fun u => (W_L cI cJ q0 n1_0 n1_1 n1_2 n1_3 n1_4 n1_5 n1_6 n1_7 n1_8 n1_9 n1_10 n1_11 n1_12 n1_13 n1_14 q8 n2_0 n2_1 n2_2 n2_3 n2_4 n2_5 n2_6 n2_7 n2_8 n2_9 n2_10 o0 xr_23 xt_23 gn_23 gu_23 gb_23 ga_23 lc_23 lk_23 ln_23 lt_23 ll_23 lr_23 tw_23 tn_23 ts_23 tt_23 mr_23 mc_23 me_23 mw_23 u mn_23 mu_23 ms_23 mt_23 md_23 mz_23 mi_23 mk_23 mo_23 mj_23 ml_23 u169_0)) hP hK hD hN hS hA [16, 17, 18, 19, 20, 21, 22, 23, 24, 25, 26, 27] [0, 1, 2, 3, 4, 5, 6, 7, 8, 9, 10, 11, 12, 13, 14, 15, 28] rfl rfl (by decide) (by decide) (by decide) [0, 1, 2, 3, 4, 5, 6, 7, 8, 9, 10, 11, 12, 13, 14, 15, 17, 18, 19, 20, 21, 22, 23, 24, 25, 26, 27, 28, 16] (by decide) (fun _ => rfl) (fun hg => va_runV (As := [.int (xs ((v23_4 + 1)).toNatClampNeg)]) (rest := []) ⟨hx, hb, hml, hown, hts⟩ (c_X5_ticketOf l D cI q8 n2_0 n2_1 n2_2 n2_3 n2_4 n2_5 n2_6 n2_7 n2_8 n2_9 n2_10 mr_23 mc_23 me_23 mw_23 mh_23 mn_23 mu_23 ms_23 mt_23 md_23 mz_23 mi_23 mk_23 mo_23 mj_23 ml_23 _ (xs ((v23_4 + 1)).toNatClampNeg) hq171) (cwV 1 hts gL_law_X5_ticketOf rfl rfl rfl (by decide +kernel) ⟨Nat.le_of_ble_eq_true rfl, Nat.le_of_ble_eq_true rfl⟩) ⟨PW.blind, va_recv hK hP (ci := 5) (q0 := 16) rfl rfl, fun U hU hW => ⟨rfl, hg U hU hW⟩⟩ rfl rfl hl.1 rfl (lv_room (Nat.le_of_ble_eq_true rfl)) dL_law_1155 ⟨(show (kc + 1) + 0 ≤ 601024 from by omega), (show (ks + 6) + 0 ≤ 7293034 from by omega)⟩) (fun r171 u H locs hw hP hD hS => ?_)
          obtain ⟨u171_0, rfl⟩ : ∃ z, z = u := ⟨_, rfl⟩
          rw [hw] at he
          try dsimp only at he
          replace hp := hp r171 u171_0 hw
          have hP : va_P D vwCl (W_L cI cJ q0 n1_0 n1_1 n1_2 n1_3 n1_4 n1_5 n1_6 n1_7 n1_8 n1_9 n1_10 n1_11 n1_12 n1_13 n1_14 q8 n2_0 n2_1 n2_2 n2_3 n2_4 n2_5 n2_6 n2_7 n2_8 n2_9 n2_10 o0 xr_23 xt_23 gn_23 gu_23 gb_23 ga_23 lc_23 lk_23 ln_23 lt_23 ll_23 lr_23 tw_23 tn_23 ts_23 tt_23 mr_23 mc_23 me_23 mw_23 u171_0 mn_23 mu_23 ms_23 mt_23 md_23 mz_23 mi_23 mk_23 mo_23 mj_23 ml_23 u169_0) H := hP
          have hD : va_D A (W_L cI cJ q0 n1_0 n1_1 n1_2 n1_3 n1_4 n1_5 n1_6 n1_7 n1_8 n1_9 n1_10 n1_11 n1_12 n1_13 n1_14 q8 n2_0 n2_1 n2_2 n2_3 n2_4 n2_5 n2_6 n2_7 n2_8 n2_9 n2_10 o0 xr_23 xt_23 gn_23 gu_23 gb_23 ga_23 lc_23 lk_23 ln_23 lt_23 ll_23 lr_23 tw_23 tn_23 ts_23 tt_23 mr_23 mc_23 me_23 mw_23 u171_0 mn_23 mu_23 ms_23 mt_23 md_23 mz_23 mi_23 mk_23 mo_23 mj_23 ml_23 u169_0) := hD
          refine lv_istore (lv' := [(6, .int r171), (5, .int r169), (4, .int v23_4), (3, .ref o0), (2, .ref q8), (1, .ref q0), (0, .ref b0)]) hx hb dL_law_1158 hl (by decide) rfl (fun ls hl => ?_)
          refine lv_aload_n hx hb dL_law_1160 rfl (lv_at hl 4 rfl) ?_
          refine k_calli (S := Unit) (wc := (W_X5 cI q8 n2_0 n2_1 n2_2 n2_3 n2_4 n2_5 n2_6 n2_7 n2_8 n2_9 n2_10 mr_23 mc_23 me_23 mw_23 u171_0 mn_23 mu_23 ms_23 mt_23 md_23 mz_23 mi_23 mk_23 mo_23 mj_23 ml_23)) (wr := (W_O cI cJ q0 n1_0 n1_1 n1_2 n1_3 n1_4 n1_5 n1_6 n1_7 n1_8 n1_9 n1_10 n1_11 n1_12 n1_13 n1_14 o0 xr_23 xt_23 gn_23 gu_23 gb_23 ga_23 lc_23 lk_23 ln_23 lt_23 ll_23 lr_23 tw_23 tn_23 ts_23 tt_23 u169_0)) (w1 := fun u => (W_X5 cI q8 n2_0 n2_1 n2_2 n2_3 n2_4 n2_5 n2_6 n2_7 n2_8 n2_9 n2_10 mr_23 mc_23 me_23 mw_23 u171_0 mn_23 mu_23 ms_23 mt_23 md_23 mz_23 mi_23 mk_23 mo_23 mj_23 ml_23)) (fun u => (W_L cI cJ q0 n1_0 n1_1 n1_2 n1_3 n1_4 n1_5 n1_6 n1_7 n1_8 n1_9 n1_10 n1_11 n1_12 n1_13 n1_14 q8 n2_0 n2_1 n2_2 n2_3 n2_4 n2_5 n2_6 n2_7 n2_8 n2_9 n2_10 o0 xr_23 xt_23 gn_23 gu_23 gb_23 ga_23 lc_23 lk_23 ln_23 lt_23 ll_23 lr_23 tw_23 tn_23 ts_23 tt_23 mr_23 mc_23 me_23 mw_23 u171_0 mn_23 mu_23 ms_23 mt_23 md_23 mz_23 mi_23 mk_23 mo_23 mj_23 ml_23 u169_0)) hP hK hD hN hS hA [16, 17, 18, 19, 20, 21, 22, 23, 24, 25, 26, 27] [0, 1, 2, 3, 4, 5, 6, 7, 8, 9, 10, 11, 12, 13, 14, 15, 28] rfl rfl (by decide) (by decide) (by decide) [0, 1, 2, 3, 4, 5, 6, 7, 8, 9, 10, 11, 12, 13, 14, 15, 17, 18, 19, 20, 21, 22, 23, 24, 25, 26, 27, 28, 16] (by decide) (fun _ => rfl) (fun hg => va_runV (As := []) (rest := []) ⟨hx, hb, hml, hown, hts⟩ (c_X5_thrown l D cI q8 n2_0 n2_1 n2_2 n2_3 n2_4 n2_5 n2_6 n2_7 n2_8 n2_9 n2_10 mr_23 mc_23 me_23 mw_23 u171_0 mn_23 mu_23 ms_23 mt_23 md_23 mz_23 mi_23 mk_23 mo_23 mj_23 ml_23 _ ) (cwV 0 hts gL_law_X5_thrown rfl rfl rfl (by decide +kernel) ⟨Nat.le_of_ble_eq_true rfl, Nat.le_of_ble_eq_true rfl⟩) ⟨PW.blind, va_recv hK hP (ci := 5) (q0 := 16) rfl rfl, fun U hU hW => ⟨rfl, hg U hU hW⟩⟩ rfl rfl hl.1 rfl (lv_room (Nat.le_of_ble_eq_true rfl)) dL_law_1161 ⟨(show (kc + 1) + 0 ≤ 601024 from by omega), (show (ks + 6) + 0 ≤ 7293034 from by omega)⟩) (fun r172 u H locs hw hP hD hS => ?_)
          subst hw
          refine lv_iload hx hb dL_law_1164 (lv_at hl 1 rfl) ?_
          refine lv_icmp_eq (tgt := 1171) hx hb dL_law_1166 (by decide) (fun c173 => ?_) (fun c173 => ?_)
          · replace hp := hp.1 c173
            replace he := he.trans (if_pos c173)
            refine lv_iload hx hb dL_law_1171 (lv_at hl 1 rfl) ?_
            refine lv_if_ne (tgt := 1188) hx hb dL_law_1173 (by decide) (fun c174 => ?_) (fun c174 => ?_)
            · replace hp := hp.2 c174
              replace he := he.trans (if_neg c174)
              refine lv_goto (tgt := 1579) hx hb dL_law_1188 (by decide) ?_
              refine lv_iinc (v := (v23_4 + 3)) (lv' := [(4, .int (v23_4 + 3)), (6, .int r171), (5, .int r169), (3, .ref o0), (2, .ref q8), (1, .ref q0), (0, .ref b0)]) hx hb dL_law_1579 hl (k := 2) rfl rfl (by decide) rfl (fun ls hl => ?_)
              refine lv_goto (tgt := 23) hx hb dL_law_1582 (by decide) ?_
              refine W.widen (k := kc + 2) (n := ks + 9) (by omega) (by omega) ?_
              exact ih _ _ _ _ _ _ _ _ _ _ _ _ _ _ _ _ _ _ _ _ _ _ _ _ _ _ _ _ _ _ _ _ _ _ (kc + 2) (ks + 9) (by omega) (by omega) hp he _ _ hP hD hS _ (lv_sub hl [0, 3, 4, 5, 6] rfl)
            · replace hp := hp.1 c174
              replace he := he.trans (if_pos c174)
              refine lv_aload_n hx hb dL_law_1176 rfl (lv_at hl 3 rfl) ?_
              refine lv_iconst (v := 0) hx hb dL_law_1177 (by decide) ?_
              refine va_lald hx hb hK hP 28 1 rfl rfl (by decide) dL_law_1178 ?_
              refine lv_iload hx hb dL_law_1179 (lv_at hl 0 rfl) ?_
              refine lv_i2l (v := (r171).toInt64) hx hb dL_law_1181 rfl ?_
              refine W.lcmp hx hb dL_law_1182 ?_
              refine lv_if_eq (tgt := 1188) hx hb dL_law_1183 (by decide) (fun c176 => ?_) (fun c176 => ?_)
              · replace hp := hp.1 c176
                replace he := he.trans (if_pos c176)
                refine lv_goto (tgt := 1579) hx hb dL_law_1188 (by decide) ?_
                refine lv_iinc (v := (v23_4 + 3)) (lv' := [(4, .int (v23_4 + 3)), (6, .int r171), (5, .int r169), (3, .ref o0), (2, .ref q8), (1, .ref q0), (0, .ref b0)]) hx hb dL_law_1579 hl (k := 2) rfl rfl (by decide) rfl (fun ls hl => ?_)
                refine lv_goto (tgt := 23) hx hb dL_law_1582 (by decide) ?_
                refine W.widen (k := kc + 2) (n := ks + 9) (by omega) (by omega) ?_
                exact ih _ _ _ _ _ _ _ _ _ _ _ _ _ _ _ _ _ _ _ _ _ _ _ _ _ _ _ _ _ _ _ _ _ _ (kc + 2) (ks + 9) (by omega) (by omega) hp he _ _ hP hD hS _ (lv_sub hl [0, 3, 4, 5, 6] rfl)
              · replace hp := hp.2 c176
                replace he := he.trans (if_neg c176)
                refine lv_iconst (v := 0) hx hb dL_law_1186 (by decide) ?_
                exact absurd he (by decide)
          · replace hp := hp.2 c173
            replace he := he.trans (if_neg c173)
            refine lv_iconst (v := 0) hx hb dL_law_1169 (by decide) ?_
            exact absurd he (by decide)
        replace he := he.trans (if_neg s18)
        replace hp := hp.2 s18
        rcases Decidable.em (((xs (v23_4).toNatClampNeg) &&& 31) = 19) with s19 | s19
        · replace he := he.trans (if_pos s19)
          replace hp := hp.1 s19
          refine lv_tableIn (off := 1152) (tgt := 1191) hx hb dL_law_39 (by rw [s19]; decide) (by rw [s19]; decide) (by rw [s19]; rfl) (by decide) ?_
          refine lv_aload_n hx hb dL_law_1191 rfl (lv_at hl 3 rfl) ?_
          refine lv_aload_n hx hb dL_law_1192 rfl (lv_at hl 4 rfl) ?_
          refine lv_iload hx hb dL_law_1193 (lv_at hl 0 rfl) ?_
          refine lv_iconst (v := 1) hx hb dL_law_1195 (by decide) ?_
          refine lv_iadd hx hb dL_law_1196 ?_
          have h177 := hp.1
          replace hp := hp.2
          refine va_sld hx hb hX hbl hbA hS h177 dL_law_1197 ?_
          have hq178 := hp.1
          replace hp := hp.2
          refine k_calli (S := Unit) (wc := (W_X4 cI q0 n1_0 n1_1 n1_2 n1_3 n1_4 n1_5 n1_6 n1_7 n1_8 n1_9 n1_10 n1_11 n1_12 n1_13 n1_14 xr_23 xt_23 gn_23 gu_23 gb_23 ga_23 lc_23 lk_23 ln_23 lt_23 ll_23 lr_23 tw_23 tn_23 ts_23 tt_23)) (wr := ((W_X5 cI q8 n2_0 n2_1 n2_2 n2_3 n2_4 n2_5 n2_6 n2_7 n2_8 n2_9 n2_10 mr_23 mc_23 me_23 mw_23 mh_23 mn_23 mu_23 ms_23 mt_23 md_23 mz_23 mi_23 mk_23 mo_23 mj_23 ml_23) ++ [(o0, .inl (cJ, 1, .inr (.inl oo_23)))])) (w1 := fun u => (W_X4 cI q0 n1_0 n1_1 n1_2 n1_3 n1_4 n1_5 n1_6 n1_7 n1_8 n1_9 n1_10 n1_11 n1_12 n1_13 n1_14 xr_23 xt_23 gn_23 gu_23 gb_23 ga_23 lc_23 lk_23 ln_23 lt_23 ll_23 lr_23 tw_23 tn_23 ts_23 tt_23)) (fun u => (W_L cI cJ q0 n1_0 n1_1 n1_2 n1_3 n1_4 n1_5 n1_6 n1_7 n1_8 n1_9 n1_10 n1_11 n1_12 n1_13 n1_14 q8 n2_0 n2_1 n2_2 n2_3 n2_4 n2_5 n2_6 n2_7 n2_8 n2_9 n2_10 o0 xr_23 xt_23 gn_23 gu_23 gb_23 ga_23 lc_23 lk_23 ln_23 lt_23 ll_23 lr_23 tw_23 tn_23 ts_23 tt_23 mr_23 mc_23 me_23 mw_23 mh_23 mn_23 mu_23 ms_23 mt_23 md_23 mz_23 mi_23 mk_23 mo_23 mj_23 ml_23 oo_23)) hP hK hD hN hS hA [0, 1, 2, 3, 4, 5, 6, 7, 8, 9, 10, 11, 12, 13, 14, 15] [16, 17, 18, 19, 20, 21, 22, 23, 24, 25, 26, 27, 28] rfl rfl (by decide) (by decide) (by decide) [13, 14, 15, 16, 17, 18, 19, 20, 21, 22, 23, 24, 25, 26, 27, 28, 0, 1, 2, 3, 4, 5, 6, 7, 8, 9, 10, 11, 12] (by decide) (fun _ => rfl) (fun hg => va_runV (As := [.int (xs ((v23_4 + 1)).toNatClampNeg)]) (rest := []) ⟨hx, hb, hml, hown, hts⟩ (c_X4_ticketState l D cI q0 n1_0 n1_1 n1_2 n1_3 n1_4 n1_5 n1_6 n1_7 n1_8 n1_9 n1_10 n1_11 n1_12 n1_13 n1_14 xr_23 xt_23 gn_23 gu_23 gb_23 ga_23 lc_23 lk_23 ln_23 lt_23 ll_23 lr_23 tw_23 tn_23 ts_23 tt_23 _ (xs ((v23_4 + 1)).toNatClampNeg) hq178) (cwV 1 hts gL_law_X4_ticketState rfl rfl rfl (by decide +kernel) ⟨Nat.le_of_ble_eq_true rfl, Nat.le_of_ble_eq_true rfl⟩) ⟨PW.blind, va_recv hK hP (ci := 4) (q0 := 0) rfl rfl, fun U hU hW => ⟨rfl, hg U hU hW⟩⟩ rfl rfl hl.1 rfl (lv_room (Nat.le_of_ble_eq_true rfl)) dL_law_1198 ⟨(show kc + 0 ≤ 601024 from by omega), (show ks + 0 ≤ 7293034 from by omega)⟩) (fun r178 u H locs hw hP hD hS => ?_)
          subst hw
          refine lv_aload_n hx hb dL_law_1201 rfl (lv_at hl 2 rfl) ?_
          refine lv_aload_n hx hb dL_law_1202 rfl (lv_at hl 4 rfl) ?_
          refine lv_iload hx hb dL_law_1203 (lv_at hl 0 rfl) ?_
          refine lv_iconst (v := 1) hx hb dL_law_1205 (by decide) ?_
          refine lv_iadd hx hb dL_law_1206 ?_
          have h179 := hp.1
          replace hp := hp.2
          refine va_sld hx hb hX hbl hbA hS h179 dL_law_1207 ?_
          have hq180 := hp.1
          replace hp := hp.2
          refine k_calli (S := Int32) (wc := (W_X5 cI q8 n2_0 n2_1 n2_2 n2_3 n2_4 n2_5 n2_6 n2_7 n2_8 n2_9 n2_10 mr_23 mc_23 me_23 mw_23 mh_23 mn_23 mu_23 ms_23 mt_23 md_23 mz_23 mi_23 mk_23 mo_23 mj_23 ml_23)) (wr := (W_O cI cJ q0 n1_0 n1_1 n1_2 n1_3 n1_4 n1_5 n1_6 n1_7 n1_8 n1_9 n1_10 n1_11 n1_12 n1_13 n1_14 o0 xr_23 xt_23 gn_23 gu_23 gb_23 ga_23 lc_23 lk_23 ln_23 lt_23 ll_23 lr_23 tw_23 tn_23 ts_23 tt_23 oo_23)) (w1 := fun u => (W_X5 cI q8 n2_0 n2_1 n2_2 n2_3 n2_4 n2_5 n2_6 n2_7 n2_8 n2_9 n2_10 mr_23 mc_23 me_23 mw_23 u mn_23 mu_23 ms_23 mt_23 md_23 mz_23 mi_23 mk_23 mo_23 mj_23 ml_23)) (fun u => (W_L cI cJ q0 n1_0 n1_1 n1_2 n1_3 n1_4 n1_5 n1_6 n1_7 n1_8 n1_9 n1_10 n1_11 n1_12 n1_13 n1_14 q8 n2_0 n2_1 n2_2 n2_3 n2_4 n2_5 n2_6 n2_7 n2_8 n2_9 n2_10 o0 xr_23 xt_23 gn_23 gu_23 gb_23 ga_23 lc_23 lk_23 ln_23 lt_23 ll_23 lr_23 tw_23 tn_23 ts_23 tt_23 mr_23 mc_23 me_23 mw_23 u mn_23 mu_23 ms_23 mt_23 md_23 mz_23 mi_23 mk_23 mo_23 mj_23 ml_23 oo_23)) hP hK hD hN hS hA [16, 17, 18, 19, 20, 21, 22, 23, 24, 25, 26, 27] [0, 1, 2, 3, 4, 5, 6, 7, 8, 9, 10, 11, 12, 13, 14, 15, 28] rfl rfl (by decide) (by decide) (by decide) [0, 1, 2, 3, 4, 5, 6, 7, 8, 9, 10, 11, 12, 13, 14, 15, 17, 18, 19, 20, 21, 22, 23, 24, 25, 26, 27, 28, 16] (by decide) (fun _ => rfl) (fun hg => va_runV (As := [.int (xs ((v23_4 + 1)).toNatClampNeg)]) (rest := [.int (f_X4_ticketState tw_23 ts_23 tt_23 (xs ((v23_4 + 1)).toNatClampNeg))]) ⟨hx, hb, hml, hown, hts⟩ (c_X5_ticketState l D cI q8 n2_0 n2_1 n2_2 n2_3 n2_4 n2_5 n2_6 n2_7 n2_8 n2_9 n2_10 mr_23 mc_23 me_23 mw_23 mh_23 mn_23 mu_23 ms_23 mt_23 md_23 mz_23 mi_23 mk_23 mo_23 mj_23 ml_23 _ (xs ((v23_4 + 1)).toNatClampNeg) hq180) (cwV 1 hts gL_law_X5_ticketState rfl rfl rfl (by decide +kernel) ⟨Nat.le_of_ble_eq_true rfl, Nat.le_of_ble_eq_true rfl⟩) ⟨PW.blind, va_recv hK hP (ci := 5) (q0 := 16) rfl rfl, fun U hU hW => ⟨rfl, hg U hU hW⟩⟩ rfl rfl hl.1 rfl (lv_room (Nat.le_of_ble_eq_true rfl)) dL_law_1208 ⟨(show kc + 0 ≤ 601024 from by omega), (show ks + 0 ≤ 7293034 from by omega)⟩) (fun r180 u H locs hw hP hD hS => ?_)
          obtain ⟨u180_0, rfl⟩ : ∃ z, z = u := ⟨_, rfl⟩
          rw [hw] at he
          try dsimp only at he
          replace hp := hp r180 u180_0 hw
          have hP : va_P D vwCl (W_L cI cJ q0 n1_0 n1_1 n1_2 n1_3 n1_4 n1_5 n1_6 n1_7 n1_8 n1_9 n1_10 n1_11 n1_12 n1_13 n1_14 q8 n2_0 n2_1 n2_2 n2_3 n2_4 n2_5 n2_6 n2_7 n2_8 n2_9 n2_10 o0 xr_23 xt_23 gn_23 gu_23 gb_23 ga_23 lc_23 lk_23 ln_23 lt_23 ll_23 lr_23 tw_23 tn_23 ts_23 tt_23 mr_23 mc_23 me_23 mw_23 u180_0 mn_23 mu_23 ms_23 mt_23 md_23 mz_23 mi_23 mk_23 mo_23 mj_23 ml_23 oo_23) H := hP
          have hD : va_D A (W_L cI cJ q0 n1_0 n1_1 n1_2 n1_3 n1_4 n1_5 n1_6 n1_7 n1_8 n1_9 n1_10 n1_11 n1_12 n1_13 n1_14 q8 n2_0 n2_1 n2_2 n2_3 n2_4 n2_5 n2_6 n2_7 n2_8 n2_9 n2_10 o0 xr_23 xt_23 gn_23 gu_23 gb_23 ga_23 lc_23 lk_23 ln_23 lt_23 ll_23 lr_23 tw_23 tn_23 ts_23 tt_23 mr_23 mc_23 me_23 mw_23 u180_0 mn_23 mu_23 ms_23 mt_23 md_23 mz_23 mi_23 mk_23 mo_23 mj_23 ml_23 oo_23) := hD
          refine lv_icmp_eq (tgt := 1579) hx hb dL_law_1211 (by decide) (fun c181 => ?_) (fun c181 => ?_)
          · replace hp := hp.1 c181
            replace he := he.trans (if_pos c181)
            refine lv_iinc (v := (v23_4 + 3)) (lv' := [(4, .int (v23_4 + 3)), (3, .ref o0), (2, .ref q8), (1, .ref q0), (0, .ref b0)]) hx hb dL_law_1579 hl (k := 0) rfl rfl (by decide) rfl (fun ls hl => ?_)
            refine lv_goto (tgt := 23) hx hb dL_law_1582 (by decide) ?_
            refine W.widen (k := kc + 2) (n := ks + 9) (by omega) (by omega) ?_
            exact ih _ _ _ _ _ _ _ _ _ _ _ _ _ _ _ _ _ _ _ _ _ _ _ _ _ _ _ _ _ _ _ _ _ _ (kc + 2) (ks + 9) (by omega) (by omega) hp he _ _ hP hD hS _ (lv_sub hl [0, 1, 2, 3, 4] rfl)
          · replace hp := hp.2 c181
            replace he := he.trans (if_neg c181)
            refine lv_iconst (v := 0) hx hb dL_law_1214 (by decide) ?_
            exact absurd he (by decide)
        replace he := he.trans (if_neg s19)
        replace hp := hp.2 s19
        rcases Decidable.em (((xs (v23_4).toNatClampNeg) &&& 31) = 20) with s20 | s20
        · replace he := he.trans (if_pos s20)
          replace hp := hp.1 s20
          refine lv_tableIn (off := 1177) (tgt := 1216) hx hb dL_law_39 (by rw [s20]; decide) (by rw [s20]; decide) (by rw [s20]; rfl) (by decide) ?_
          refine lv_aload_n hx hb dL_law_1216 rfl (lv_at hl 3 rfl) ?_
          refine lv_aload_n hx hb dL_law_1217 rfl (lv_at hl 4 rfl) ?_
          refine lv_iload hx hb dL_law_1218 (lv_at hl 0 rfl) ?_
          refine lv_iconst (v := 1) hx hb dL_law_1220 (by decide) ?_
          refine lv_iadd hx hb dL_law_1221 ?_
          have h182 := hp.1
          replace hp := hp.2
          refine va_sld hx hb hX hbl hbA hS h182 dL_law_1222 ?_
          have hq183 := hp.1
          replace hp := hp.2
          refine k_calli (S := Unit) (wc := (W_X4 cI q0 n1_0 n1_1 n1_2 n1_3 n1_4 n1_5 n1_6 n1_7 n1_8 n1_9 n1_10 n1_11 n1_12 n1_13 n1_14 xr_23 xt_23 gn_23 gu_23 gb_23 ga_23 lc_23 lk_23 ln_23 lt_23 ll_23 lr_23 tw_23 tn_23 ts_23 tt_23)) (wr := ((W_X5 cI q8 n2_0 n2_1 n2_2 n2_3 n2_4 n2_5 n2_6 n2_7 n2_8 n2_9 n2_10 mr_23 mc_23 me_23 mw_23 mh_23 mn_23 mu_23 ms_23 mt_23 md_23 mz_23 mi_23 mk_23 mo_23 mj_23 ml_23) ++ [(o0, .inl (cJ, 1, .inr (.inl oo_23)))])) (w1 := fun u => (W_X4 cI q0 n1_0 n1_1 n1_2 n1_3 n1_4 n1_5 n1_6 n1_7 n1_8 n1_9 n1_10 n1_11 n1_12 n1_13 n1_14 xr_23 xt_23 gn_23 gu_23 gb_23 ga_23 lc_23 lk_23 ln_23 lt_23 ll_23 lr_23 tw_23 tn_23 ts_23 tt_23)) (fun u => (W_L cI cJ q0 n1_0 n1_1 n1_2 n1_3 n1_4 n1_5 n1_6 n1_7 n1_8 n1_9 n1_10 n1_11 n1_12 n1_13 n1_14 q8 n2_0 n2_1 n2_2 n2_3 n2_4 n2_5 n2_6 n2_7 n2_8 n2_9 n2_10 o0 xr_23 xt_23 gn_23 gu_23 gb_23 ga_23 lc_23 lk_23 ln_23 lt_23 ll_23 lr_23 tw_23 tn_23 ts_23 tt_23 mr_23 mc_23 me_23 mw_23 mh_23 mn_23 mu_23 ms_23 mt_23 md_23 mz_23 mi_23 mk_23 mo_23 mj_23 ml_23 oo_23)) hP hK hD hN hS hA [0, 1, 2, 3, 4, 5, 6, 7, 8, 9, 10, 11, 12, 13, 14, 15] [16, 17, 18, 19, 20, 21, 22, 23, 24, 25, 26, 27, 28] rfl rfl (by decide) (by decide) (by decide) [13, 14, 15, 16, 17, 18, 19, 20, 21, 22, 23, 24, 25, 26, 27, 28, 0, 1, 2, 3, 4, 5, 6, 7, 8, 9, 10, 11, 12] (by decide) (fun _ => rfl) (fun hg => va_runV (As := [.int (xs ((v23_4 + 1)).toNatClampNeg)]) (rest := []) ⟨hx, hb, hml, hown, hts⟩ (c_X4_ticketSize l D cI q0 n1_0 n1_1 n1_2 n1_3 n1_4 n1_5 n1_6 n1_7 n1_8 n1_9 n1_10 n1_11 n1_12 n1_13 n1_14 xr_23 xt_23 gn_23 gu_23 gb_23 ga_23 lc_23 lk_23 ln_23 lt_23 ll_23 lr_23 tw_23 tn_23 ts_23 tt_23 _ (xs ((v23_4 + 1)).toNatClampNeg) hq183) (cwV 1 hts gL_law_X4_ticketSize rfl rfl rfl (by decide +kernel) ⟨Nat.le_of_ble_eq_true rfl, Nat.le_of_ble_eq_true rfl⟩) ⟨PW.blind, va_recv hK hP (ci := 4) (q0 := 0) rfl rfl, fun U hU hW => ⟨rfl, hg U hU hW⟩⟩ rfl rfl hl.1 rfl (lv_room (Nat.le_of_ble_eq_true rfl)) dL_law_1223 ⟨(show kc + 0 ≤ 601024 from by omega), (show ks + 0 ≤ 7293034 from by omega)⟩) (fun r183 u H locs hw hP hD hS => ?_)
          subst hw
          refine lv_aload_n hx hb dL_law_1226 rfl (lv_at hl 2 rfl) ?_
          refine lv_aload_n hx hb dL_law_1227 rfl (lv_at hl 4 rfl) ?_
          refine lv_iload hx hb dL_law_1228 (lv_at hl 0 rfl) ?_
          refine lv_iconst (v := 1) hx hb dL_law_1230 (by decide) ?_
          refine lv_iadd hx hb dL_law_1231 ?_
          have h184 := hp.1
          replace hp := hp.2
          refine va_sld hx hb hX hbl hbA hS h184 dL_law_1232 ?_
          have hq185 := hp.1
          replace hp := hp.2
          refine k_calli (S := Int32) (wc := (W_X5 cI q8 n2_0 n2_1 n2_2 n2_3 n2_4 n2_5 n2_6 n2_7 n2_8 n2_9 n2_10 mr_23 mc_23 me_23 mw_23 mh_23 mn_23 mu_23 ms_23 mt_23 md_23 mz_23 mi_23 mk_23 mo_23 mj_23 ml_23)) (wr := (W_O cI cJ q0 n1_0 n1_1 n1_2 n1_3 n1_4 n1_5 n1_6 n1_7 n1_8 n1_9 n1_10 n1_11 n1_12 n1_13 n1_14 o0 xr_23 xt_23 gn_23 gu_23 gb_23 ga_23 lc_23 lk_23 ln_23 lt_23 ll_23 lr_23 tw_23 tn_23 ts_23 tt_23 oo_23)) (w1 := fun u => (W_X5 cI q8 n2_0 n2_1 n2_2 n2_3 n2_4 n2_5 n2_6 n2_7 n2_8 n2_9 n2_10 mr_23 mc_23 me_23 mw_23 u mn_23 mu_23 ms_23 mt_23 md_23 mz_23 mi_23 mk_23 mo_23 mj_23 ml_23)) (fun u => (W_L cI cJ q0 n1_0 n1_1 n1_2 n1_3 n1_4 n1_5 n1_6 n1_7 n1_8 n1_9 n1_10 n1_11 n1_12 n1_13 n1_14 q8 n2_0 n2_1 n2_2 n2_3 n2_4 n2_5 n2_6 n2_7 n2_8 n2_9 n2_10 o0 xr_23 xt_23 gn_23 gu_23 gb_23 ga_23 lc_23 lk_23 ln_23 lt_23 ll_23 lr_23 tw_23 tn_23 ts_23 tt_23 mr_23 mc_23 me_23 mw_23 u mn_23 mu_23 ms_23 mt_23 md_23 mz_23 mi_23 mk_23 mo_23 mj_23 ml_23 oo_23)) hP hK hD hN hS hA [16, 17, 18, 19, 20, 21, 22, 23, 24, 25, 26, 27] [0, 1, 2, 3, 4, 5, 6, 7, 8, 9, 10, 11, 12, 13, 14, 15, 28] rfl rfl (by decide) (by decide) (by decide) [0, 1, 2, 3, 4, 5, 6, 7, 8, 9, 10, 11, 12, 13, 14, 15, 17, 18, 19, 20, 21, 22, 23, 24, 25, 26, 27, 28, 16] (by decide) (fun _ => rfl) (fun hg => va_runV (As := [.int (xs ((v23_4 + 1)).toNatClampNeg)]) (rest := [.int (f_X4_ticketSize tw_23 ts_23 (xs ((v23_4 + 1)).toNatClampNeg))]) ⟨hx, hb, hml, hown, hts⟩ (c_X5_ticketSize l D cI q8 n2_0 n2_1 n2_2 n2_3 n2_4 n2_5 n2_6 n2_7 n2_8 n2_9 n2_10 mr_23 mc_23 me_23 mw_23 mh_23 mn_23 mu_23 ms_23 mt_23 md_23 mz_23 mi_23 mk_23 mo_23 mj_23 ml_23 _ (xs ((v23_4 + 1)).toNatClampNeg) hq185) (cwV 1 hts gL_law_X5_ticketSize rfl rfl rfl (by decide +kernel) ⟨Nat.le_of_ble_eq_true rfl, Nat.le_of_ble_eq_true rfl⟩) ⟨PW.blind, va_recv hK hP (ci := 5) (q0 := 16) rfl rfl, fun U hU hW => ⟨rfl, hg U hU hW⟩⟩ rfl rfl hl.1 rfl (lv_room (Nat.le_of_ble_eq_true rfl)) dL_law_1233 ⟨(show kc + 0 ≤ 601024 from by omega), (show ks + 0 ≤ 7293034 from by omega)⟩) (fun r185 u H locs hw hP hD hS => ?_)
          obtain ⟨u185_0, rfl⟩ : ∃ z, z = u := ⟨_, rfl⟩
          rw [hw] at he
          try dsimp only at he
          replace hp := hp r185 u185_0 hw
          have hP : va_P D vwCl (W_L cI cJ q0 n1_0 n1_1 n1_2 n1_3 n1_4 n1_5 n1_6 n1_7 n1_8 n1_9 n1_10 n1_11 n1_12 n1_13 n1_14 q8 n2_0 n2_1 n2_2 n2_3 n2_4 n2_5 n2_6 n2_7 n2_8 n2_9 n2_10 o0 xr_23 xt_23 gn_23 gu_23 gb_23 ga_23 lc_23 lk_23 ln_23 lt_23 ll_23 lr_23 tw_23 tn_23 ts_23 tt_23 mr_23 mc_23 me_23 mw_23 u185_0 mn_23 mu_23 ms_23 mt_23 md_23 mz_23 mi_23 mk_23 mo_23 mj_23 ml_23 oo_23) H := hP
          have hD : va_D A (W_L cI cJ q0 n1_0 n1_1 n1_2 n1_3 n1_4 n1_5 n1_6 n1_7 n1_8 n1_9 n1_10 n1_11 n1_12 n1_13 n1_14 q8 n2_0 n2_1 n2_2 n2_3 n2_4 n2_5 n2_6 n2_7 n2_8 n2_9 n2_10 o0 xr_23 xt_23 gn_23 gu_23 gb_23 ga_23 lc_23 lk_23 ln_23 lt_23 ll_23 lr_23 tw_23 tn_23 ts_23 tt_23 mr_23 mc_23 me_23 mw_23 u185_0 mn_23 mu_23 ms_23 mt_23 md_23 mz_23 mi_23 mk_23 mo_23 mj_23 ml_23 oo_23) := hD
          refine lv_icmp_eq (tgt := 1579) hx hb dL_law_1236 (by decide) (fun c186 => ?_) (fun c186 => ?_)
          · replace hp := hp.1 c186
            replace he := he.trans (if_pos c186)
            refine lv_iinc (v := (v23_4 + 3)) (lv' := [(4, .int (v23_4 + 3)), (3, .ref o0), (2, .ref q8), (1, .ref q0), (0, .ref b0)]) hx hb dL_law_1579 hl (k := 0) rfl rfl (by decide) rfl (fun ls hl => ?_)
            refine lv_goto (tgt := 23) hx hb dL_law_1582 (by decide) ?_
            refine W.widen (k := kc + 2) (n := ks + 9) (by omega) (by omega) ?_
            exact ih _ _ _ _ _ _ _ _ _ _ _ _ _ _ _ _ _ _ _ _ _ _ _ _ _ _ _ _ _ _ _ _ _ _ (kc + 2) (ks + 9) (by omega) (by omega) hp he _ _ hP hD hS _ (lv_sub hl [0, 1, 2, 3, 4] rfl)
          · replace hp := hp.2 c186
            replace he := he.trans (if_neg c186)
            refine lv_iconst (v := 0) hx hb dL_law_1239 (by decide) ?_
            exact absurd he (by decide)
        replace he := he.trans (if_neg s20)
        replace hp := hp.2 s20
        rcases Decidable.em (((xs (v23_4).toNatClampNeg) &&& 31) = 21) with s21 | s21
        · replace he := he.trans (if_pos s21)
          replace hp := hp.1 s21
          refine lv_tableIn (off := 1202) (tgt := 1241) hx hb dL_law_39 (by rw [s21]; decide) (by rw [s21]; decide) (by rw [s21]; rfl) (by decide) ?_
          refine lv_aload_n hx hb dL_law_1241 rfl (lv_at hl 3 rfl) ?_
          refine lv_aload_n hx hb dL_law_1242 rfl (lv_at hl 4 rfl) ?_
          refine lv_iload hx hb dL_law_1243 (lv_at hl 0 rfl) ?_
          refine lv_iconst (v := 1) hx hb dL_law_1245 (by decide) ?_
          refine lv_iadd hx hb dL_law_1246 ?_
          have h187 := hp.1
          replace hp := hp.2
          refine va_sld hx hb hX hbl hbA hS h187 dL_law_1247 ?_
          have hq188 := hp.1
          replace hp := hp.2
          refine k_calli (S := Unit) (wc := (W_X4 cI q0 n1_0 n1_1 n1_2 n1_3 n1_4 n1_5 n1_6 n1_7 n1_8 n1_9 n1_10 n1_11 n1_12 n1_13 n1_14 xr_23 xt_23 gn_23 gu_23 gb_23 ga_23 lc_23 lk_23 ln_23 lt_23 ll_23 lr_23 tw_23 tn_23 ts_23 tt_23)) (wr := ((W_X5 cI q8 n2_0 n2_1 n2_2 n2_3 n2_4 n2_5 n2_6 n2_7 n2_8 n2_9 n2_10 mr_23 mc_23 me_23 mw_23 mh_23 mn_23 mu_23 ms_23 mt_23 md_23 mz_23 mi_23 mk_23 mo_23 mj_23 ml_23) ++ [(o0, .inl (cJ, 1, .inr (.inl oo_23)))])) (w1 := fun u => (W_X4 cI q0 n1_0 n1_1 n1_2 n1_3 n1_4 n1_5 n1_6 n1_7 n1_8 n1_9 n1_10 n1_11 n1_12 n1_13 n1_14 xr_23 xt_23 gn_23 gu_23 gb_23 ga_23 lc_23 lk_23 ln_23 lt_23 ll_23 lr_23 tw_23 tn_23 ts_23 tt_23)) (fun u => (W_L cI cJ q0 n1_0 n1_1 n1_2 n1_3 n1_4 n1_5 n1_6 n1_7 n1_8 n1_9 n1_10 n1_11 n1_12 n1_13 n1_14 q8 n2_0 n2_1 n2_2 n2_3 n2_4 n2_5 n2_6 n2_7 n2_8 n2_9 n2_10 o0 xr_23 xt_23 gn_23 gu_23 gb_23 ga_23 lc_23 lk_23 ln_23 lt_23 ll_23 lr_23 tw_23 tn_23 ts_23 tt_23 mr_23 mc_23 me_23 mw_23 mh_23 mn_23 mu_23 ms_23 mt_23 md_23 mz_23 mi_23 mk_23 mo_23 mj_23 ml_23 oo_23)) hP hK hD hN hS hA [0, 1, 2, 3, 4, 5, 6, 7, 8, 9, 10, 11, 12, 13, 14, 15] [16, 17, 18, 19, 20, 21, 22, 23, 24, 25, 26, 27, 28] rfl rfl (by decide) (by decide) (by decide) [13, 14, 15, 16, 17, 18, 19, 20, 21, 22, 23, 24, 25, 26, 27, 28, 0, 1, 2, 3, 4, 5, 6, 7, 8, 9, 10, 11, 12] (by decide) (fun _ => rfl) (fun hg => va_runV (As := [.int (xs ((v23_4 + 1)).toNatClampNeg)]) (rest := []) ⟨hx, hb, hml, hown, hts⟩ (c_X4_mergedInto l D cI q0 n1_0 n1_1 n1_2 n1_3 n1_4 n1_5 n1_6 n1_7 n1_8 n1_9 n1_10 n1_11 n1_12 n1_13 n1_14 xr_23 xt_23 gn_23 gu_23 gb_23 ga_23 lc_23 lk_23 ln_23 lt_23 ll_23 lr_23 tw_23 tn_23 ts_23 tt_23 _ (xs ((v23_4 + 1)).toNatClampNeg) hq188) (cwV 1 hts gL_law_X4_mergedInto rfl rfl rfl (by decide +kernel) ⟨Nat.le_of_ble_eq_true rfl, Nat.le_of_ble_eq_true rfl⟩) ⟨PW.blind, va_recv hK hP (ci := 4) (q0 := 0) rfl rfl, fun U hU hW => ⟨rfl, hg U hU hW⟩⟩ rfl rfl hl.1 rfl (lv_room (Nat.le_of_ble_eq_true rfl)) dL_law_1248 ⟨(show kc + 0 ≤ 601024 from by omega), (show ks + 0 ≤ 7293034 from by omega)⟩) (fun r188 u H locs hw hP hD hS => ?_)
          subst hw
          refine lv_aload_n hx hb dL_law_1251 rfl (lv_at hl 2 rfl) ?_
          refine lv_aload_n hx hb dL_law_1252 rfl (lv_at hl 4 rfl) ?_
          refine lv_iload hx hb dL_law_1253 (lv_at hl 0 rfl) ?_
          refine lv_iconst (v := 1) hx hb dL_law_1255 (by decide) ?_
          refine lv_iadd hx hb dL_law_1256 ?_
          have h189 := hp.1
          replace hp := hp.2
          refine va_sld hx hb hX hbl hbA hS h189 dL_law_1257 ?_
          have hq190 := hp.1
          replace hp := hp.2
          refine k_calli (S := Int32) (wc := (W_X5 cI q8 n2_0 n2_1 n2_2 n2_3 n2_4 n2_5 n2_6 n2_7 n2_8 n2_9 n2_10 mr_23 mc_23 me_23 mw_23 mh_23 mn_23 mu_23 ms_23 mt_23 md_23 mz_23 mi_23 mk_23 mo_23 mj_23 ml_23)) (wr := (W_O cI cJ q0 n1_0 n1_1 n1_2 n1_3 n1_4 n1_5 n1_6 n1_7 n1_8 n1_9 n1_10 n1_11 n1_12 n1_13 n1_14 o0 xr_23 xt_23 gn_23 gu_23 gb_23 ga_23 lc_23 lk_23 ln_23 lt_23 ll_23 lr_23 tw_23 tn_23 ts_23 tt_23 oo_23)) (w1 := fun u => (W_X5 cI q8 n2_0 n2_1 n2_2 n2_3 n2_4 n2_5 n2_6 n2_7 n2_8 n2_9 n2_10 mr_23 mc_23 me_23 mw_23 u mn_23 mu_23 ms_23 mt_23 md_23 mz_23 mi_23 mk_23 mo_23 mj_23 ml_23)) (fun u => (W_L cI cJ q0 n1_0 n1_1 n1_2 n1_3 n1_4 n1_5 n1_6 n1_7 n1_8 n1_9 n1_10 n1_11 n1_12 n1_13 n1_14 q8 n2_0 n2_1 n2_2 n2_3 n2_4 n2_5 n2_6 n2_7 n2_8 n2_9 n2_10 o0 xr_23 xt_23 gn_23 gu_23 gb_23 ga_23 lc_23 lk_23 ln_23 lt_23 ll_23 lr_23 tw_23 tn_23 ts_23 tt_23 mr_23 mc_23 me_23 mw_23 u mn_23 mu_23 ms_23 mt_23 md_23 mz_23 mi_23 mk_23 mo_23 mj_23 ml_23 oo_23)) hP hK hD hN hS hA [16, 17, 18, 19, 20, 21, 22, 23, 24, 25, 26, 27] [0, 1, 2, 3, 4, 5, 6, 7, 8, 9, 10, 11, 12, 13, 14, 15, 28] rfl rfl (by decide) (by decide) (by decide) [0, 1, 2, 3, 4, 5, 6, 7, 8, 9, 10, 11, 12, 13, 14, 15, 17, 18, 19, 20, 21, 22, 23, 24, 25, 26, 27, 28, 16] (by decide) (fun _ => rfl) (fun hg => va_runV (As := [.int (xs ((v23_4 + 1)).toNatClampNeg)]) (rest := [.int (f_X4_mergedInto tw_23 tt_23 (xs ((v23_4 + 1)).toNatClampNeg))]) ⟨hx, hb, hml, hown, hts⟩ (c_X5_mergedInto l D cI q8 n2_0 n2_1 n2_2 n2_3 n2_4 n2_5 n2_6 n2_7 n2_8 n2_9 n2_10 mr_23 mc_23 me_23 mw_23 mh_23 mn_23 mu_23 ms_23 mt_23 md_23 mz_23 mi_23 mk_23 mo_23 mj_23 ml_23 _ (xs ((v23_4 + 1)).toNatClampNeg) hq190) (cwV 1 hts gL_law_X5_mergedInto rfl rfl rfl (by decide +kernel) ⟨Nat.le_of_ble_eq_true rfl, Nat.le_of_ble_eq_true rfl⟩) ⟨PW.blind, va_recv hK hP (ci := 5) (q0 := 16) rfl rfl, fun U hU hW => ⟨rfl, hg U hU hW⟩⟩ rfl rfl hl.1 rfl (lv_room (Nat.le_of_ble_eq_true rfl)) dL_law_1258 ⟨(show kc + 0 ≤ 601024 from by omega), (show ks + 0 ≤ 7293034 from by omega)⟩) (fun r190 u H locs hw hP hD hS => ?_)
          obtain ⟨u190_0, rfl⟩ : ∃ z, z = u := ⟨_, rfl⟩
          rw [hw] at he
          try dsimp only at he
          replace hp := hp r190 u190_0 hw
          have hP : va_P D vwCl (W_L cI cJ q0 n1_0 n1_1 n1_2 n1_3 n1_4 n1_5 n1_6 n1_7 n1_8 n1_9 n1_10 n1_11 n1_12 n1_13 n1_14 q8 n2_0 n2_1 n2_2 n2_3 n2_4 n2_5 n2_6 n2_7 n2_8 n2_9 n2_10 o0 xr_23 xt_23 gn_23 gu_23 gb_23 ga_23 lc_23 lk_23 ln_23 lt_23 ll_23 lr_23 tw_23 tn_23 ts_23 tt_23 mr_23 mc_23 me_23 mw_23 u190_0 mn_23 mu_23 ms_23 mt_23 md_23 mz_23 mi_23 mk_23 mo_23 mj_23 ml_23 oo_23) H := hP
          have hD : va_D A (W_L cI cJ q0 n1_0 n1_1 n1_2 n1_3 n1_4 n1_5 n1_6 n1_7 n1_8 n1_9 n1_10 n1_11 n1_12 n1_13 n1_14 q8 n2_0 n2_1 n2_2 n2_3 n2_4 n2_5 n2_6 n2_7 n2_8 n2_9 n2_10 o0 xr_23 xt_23 gn_23 gu_23 gb_23 ga_23 lc_23 lk_23 ln_23 lt_23 ll_23 lr_23 tw_23 tn_23 ts_23 tt_23 mr_23 mc_23 me_23 mw_23 u190_0 mn_23 mu_23 ms_23 mt_23 md_23 mz_23 mi_23 mk_23 mo_23 mj_23 ml_23 oo_23) := hD
          refine lv_icmp_eq (tgt := 1579) hx hb dL_law_1261 (by decide) (fun c191 => ?_) (fun c191 => ?_)
          · replace hp := hp.1 c191
            replace he := he.trans (if_pos c191)
            refine lv_iinc (v := (v23_4 + 3)) (lv' := [(4, .int (v23_4 + 3)), (3, .ref o0), (2, .ref q8), (1, .ref q0), (0, .ref b0)]) hx hb dL_law_1579 hl (k := 0) rfl rfl (by decide) rfl (fun ls hl => ?_)
            refine lv_goto (tgt := 23) hx hb dL_law_1582 (by decide) ?_
            refine W.widen (k := kc + 2) (n := ks + 9) (by omega) (by omega) ?_
            exact ih _ _ _ _ _ _ _ _ _ _ _ _ _ _ _ _ _ _ _ _ _ _ _ _ _ _ _ _ _ _ _ _ _ _ (kc + 2) (ks + 9) (by omega) (by omega) hp he _ _ hP hD hS _ (lv_sub hl [0, 1, 2, 3, 4] rfl)
          · replace hp := hp.2 c191
            replace he := he.trans (if_neg c191)
            refine lv_iconst (v := 0) hx hb dL_law_1264 (by decide) ?_
            exact absurd he (by decide)
        replace he := he.trans (if_neg s21)
        replace hp := hp.2 s21
        rcases Decidable.em (((xs (v23_4).toNatClampNeg) &&& 31) = 22) with s22 | s22
        · replace he := he.trans (if_pos s22)
          replace hp := hp.1 s22
          refine lv_tableIn (off := 1227) (tgt := 1266) hx hb dL_law_39 (by rw [s22]; decide) (by rw [s22]; decide) (by rw [s22]; rfl) (by decide) ?_
          refine lv_aload_n hx hb dL_law_1266 rfl (lv_at hl 3 rfl) ?_
          refine lv_aload_n hx hb dL_law_1267 rfl (lv_at hl 4 rfl) ?_
          refine lv_iload hx hb dL_law_1268 (lv_at hl 0 rfl) ?_
          refine lv_iconst (v := 1) hx hb dL_law_1270 (by decide) ?_
          refine lv_iadd hx hb dL_law_1271 ?_
          have h192 := hp.1
          replace hp := hp.2
          refine va_sld hx hb hX hbl hbA hS h192 dL_law_1272 ?_
          refine lv_aload_n hx hb dL_law_1273 rfl (lv_at hl 1 rfl) ?_
          have hq193 := hp.1
          replace hp := hp.2
          refine k_ycalli (S := LA) (wc := (W_O cI cJ q0 n1_0 n1_1 n1_2 n1_3 n1_4 n1_5 n1_6 n1_7 n1_8 n1_9 n1_10 n1_11 n1_12 n1_13 n1_14 o0 xr_23 xt_23 gn_23 gu_23 gb_23 ga_23 lc_23 lk_23 ln_23 lt_23 ll_23 lr_23 tw_23 tn_23 ts_23 tt_23 oo_23)) (wr := (W_X5 cI q8 n2_0 n2_1 n2_2 n2_3 n2_4 n2_5 n2_6 n2_7 n2_8 n2_9 n2_10 mr_23 mc_23 me_23 mw_23 mh_23 mn_23 mu_23 ms_23 mt_23 md_23 mz_23 mi_23 mk_23 mo_23 mj_23 ml_23)) (w1 := fun u => (W_O cI cJ q0 n1_0 n1_1 n1_2 n1_3 n1_4 n1_5 n1_6 n1_7 n1_8 n1_9 n1_10 n1_11 n1_12 n1_13 n1_14 o0 xr_23 xt_23 gn_23 gu_23 gb_23 ga_23 lc_23 lk_23 ln_23 lt_23 ll_23 lr_23 tw_23 tn_23 ts_23 tt_23 u)) (fun u => (W_L cI cJ q0 n1_0 n1_1 n1_2 n1_3 n1_4 n1_5 n1_6 n1_7 n1_8 n1_9 n1_10 n1_11 n1_12 n1_13 n1_14 q8 n2_0 n2_1 n2_2 n2_3 n2_4 n2_5 n2_6 n2_7 n2_8 n2_9 n2_10 o0 xr_23 xt_23 gn_23 gu_23 gb_23 ga_23 lc_23 lk_23 ln_23 lt_23 ll_23 lr_23 tw_23 tn_23 ts_23 tt_23 mr_23 mc_23 me_23 mw_23 mh_23 mn_23 mu_23 ms_23 mt_23 md_23 mz_23 mi_23 mk_23 mo_23 mj_23 ml_23 u)) hP hK hD hN hXB hS hA [0, 1, 2, 3, 4, 5, 6, 7, 8, 9, 10, 11, 12, 13, 14, 15, 28] [16, 17, 18, 19, 20, 21, 22, 23, 24, 25, 26, 27] rfl rfl (by decide) (by decide) (by decide) [12, 13, 14, 15, 16, 17, 18, 19, 20, 21, 22, 23, 24, 25, 26, 27, 0, 1, 2, 3, 4, 5, 6, 7, 8, 9, 10, 11, 28] (by decide) (fun _ => rfl) (fun hg => va_runS (As := [.ref q0, .int (xs ((v23_4 + 1)).toNatClampNeg), .ref o0]) (rest := []) ⟨hx, hb, hml, hown, hts⟩ (c_L_isPlausible l D cI cJ q0 n1_0 n1_1 n1_2 n1_3 n1_4 n1_5 n1_6 n1_7 n1_8 n1_9 n1_10 n1_11 n1_12 n1_13 n1_14 o0 xr_23 xt_23 gn_23 gu_23 gb_23 ga_23 lc_23 lk_23 ln_23 lt_23 ll_23 lr_23 tw_23 tn_23 ts_23 tt_23 oo_23 _ (xs ((v23_4 + 1)).toNatClampNeg) hq193 hst) (va_cwS 3 hts gL_law_L_isPlausible rfl rfl rfl (by decide +kernel) ⟨Nat.le_of_ble_eq_true rfl, Nat.le_of_ble_eq_true rfl⟩) ⟨PX.blind, fun U hU hW => ⟨rfl, hg U hU hW⟩⟩ rfl rfl hl.1 rfl (lv_room (Nat.le_of_ble_eq_true rfl)) dL_law_1274 ⟨(show kc + 2 ≤ 601024 from by omega), (show ks + 9 ≤ 7293034 from by omega)⟩) (fun r193 u H locs hw hP hD hS => ?_)
          obtain ⟨u193_0, rfl⟩ : ∃ z, z = u := ⟨_, rfl⟩
          rw [hw] at he
          try dsimp only at he
          replace hp := hp r193 u193_0 hw
          have hP : va_P D vwCl (W_L cI cJ q0 n1_0 n1_1 n1_2 n1_3 n1_4 n1_5 n1_6 n1_7 n1_8 n1_9 n1_10 n1_11 n1_12 n1_13 n1_14 q8 n2_0 n2_1 n2_2 n2_3 n2_4 n2_5 n2_6 n2_7 n2_8 n2_9 n2_10 o0 xr_23 xt_23 gn_23 gu_23 gb_23 ga_23 lc_23 lk_23 ln_23 lt_23 ll_23 lr_23 tw_23 tn_23 ts_23 tt_23 mr_23 mc_23 me_23 mw_23 mh_23 mn_23 mu_23 ms_23 mt_23 md_23 mz_23 mi_23 mk_23 mo_23 mj_23 ml_23 u193_0) H := hP
          have hD : va_D A (W_L cI cJ q0 n1_0 n1_1 n1_2 n1_3 n1_4 n1_5 n1_6 n1_7 n1_8 n1_9 n1_10 n1_11 n1_12 n1_13 n1_14 q8 n2_0 n2_1 n2_2 n2_3 n2_4 n2_5 n2_6 n2_7 n2_8 n2_9 n2_10 o0 xr_23 xt_23 gn_23 gu_23 gb_23 ga_23 lc_23 lk_23 ln_23 lt_23 ll_23 lr_23 tw_23 tn_23 ts_23 tt_23 mr_23 mc_23 me_23 mw_23 mh_23 mn_23 mu_23 ms_23 mt_23 md_23 mz_23 mi_23 mk_23 mo_23 mj_23 ml_23 u193_0) := hD
          refine lv_istore (lv' := [(5, .int r193), (4, .int v23_4), (3, .ref o0), (2, .ref q8), (1, .ref q0), (0, .ref b0)]) hx hb dL_law_1277 hl (by decide) rfl (fun ls hl => ?_)
          refine lv_aload_n hx hb dL_law_1279 rfl (lv_at hl 3 rfl) ?_
          refine lv_aload_n hx hb dL_law_1280 rfl (lv_at hl 5 rfl) ?_
          refine lv_iload hx hb dL_law_1281 (lv_at hl 1 rfl) ?_
          refine lv_iconst (v := 1) hx hb dL_law_1283 (by decide) ?_
          refine lv_iadd hx hb dL_law_1284 ?_
          have h194 := hp.1
          replace hp := hp.2
          refine va_sld hx hb hX hbl hbA hS h194 dL_law_1285 ?_
          have hq195 := hp.1
          replace hp := hp.2
          refine k_calli (S := Int32) (wc := (W_X5 cI q8 n2_0 n2_1 n2_2 n2_3 n2_4 n2_5 n2_6 n2_7 n2_8 n2_9 n2_10 mr_23 mc_23 me_23 mw_23 mh_23 mn_23 mu_23 ms_23 mt_23 md_23 mz_23 mi_23 mk_23 mo_23 mj_23 ml_23)) (wr := (W_O cI cJ q0 n1_0 n1_1 n1_2 n1_3 n1_4 n1_5 n1_6 n1_7 n1_8 n1_9 n1_10 n1_11 n1_12 n1_13 n1_14 o0 xr_23 xt_23 gn_23 gu_23 gb_23 ga_23 lc_23 lk_23 ln_23 lt_23 ll_23 lr_23 tw_23 tn_23 ts_23 tt_23 u193_0)) (w1 := fun u => (W_X5 cI q8 n2_0 n2_1 n2_2 n2_3 n2_4 n2_5 n2_6 n2_7 n2_8 n2_9 n2_10 mr_23 mc_23 me_23 mw_23 u mn_23 mu_23 ms_23 mt_23 md_23 mz_23 mi_23 mk_23 mo_23 mj_23 ml_23)) (fun u => (W_L cI cJ q0 n1_0 n1_1 n1_2 n1_3 n1_4 n1_5 n1_6 n1_7 n1_8 n1_9 n1_10 n1_11 n1_12 n1_13 n1_14 q8 n2_0 n2_1 n2_2 n2_3 n2_4 n2_5 n2_6 n2_7 n2_8 n2_9 n2_10 o0 xr_23 xt_23 gn_23 gu_23 gb_23 ga_23 lc_23 lk_23 ln_23 lt_23 ll_23 lr_23 tw_23 tn_23 ts_23 tt_23 mr_23 mc_23 me_23 mw_23 u mn_23 mu_23 ms_23 mt_23 md_23 mz_23 mi_23 mk_23 mo_23 mj_23 ml_23 u193_0)) hP hK hD hN hS hA [16, 17, 18, 19, 20, 21, 22, 23, 24, 25, 26, 27] [0, 1, 2, 3, 4, 5, 6, 7, 8, 9, 10, 11, 12, 13, 14, 15, 28] rfl rfl (by decide) (by decide) (by decide) [0, 1, 2, 3, 4, 5, 6, 7, 8, 9, 10, 11, 12, 13, 14, 15, 17, 18, 19, 20, 21, 22, 23, 24, 25, 26, 27, 28, 16] (by decide) (fun _ => rfl) (fun hg => va_runV (As := [.int (xs ((v23_4 + 1)).toNatClampNeg)]) (rest := []) ⟨hx, hb, hml, hown, hts⟩ (c_X5_isPlausible l D cI q8 n2_0 n2_1 n2_2 n2_3 n2_4 n2_5 n2_6 n2_7 n2_8 n2_9 n2_10 mr_23 mc_23 me_23 mw_23 mh_23 mn_23 mu_23 ms_23 mt_23 md_23 mz_23 mi_23 mk_23 mo_23 mj_23 ml_23 _ (xs ((v23_4 + 1)).toNatClampNeg) hq195) (cwV 1 hts gL_law_X5_isPlausible rfl rfl rfl (by decide +kernel) ⟨Nat.le_of_ble_eq_true rfl, Nat.le_of_ble_eq_true rfl⟩) ⟨PW.blind, va_recv hK hP (ci := 5) (q0 := 16) rfl rfl, fun U hU hW => ⟨rfl, hg U hU hW⟩⟩ rfl rfl hl.1 rfl (lv_room (Nat.le_of_ble_eq_true rfl)) dL_law_1286 ⟨(show (kc + 2) + 0 ≤ 601024 from by omega), (show (ks + 9) + 0 ≤ 7293034 from by omega)⟩) (fun r195 u H locs hw hP hD hS => ?_)
          obtain ⟨u195_0, rfl⟩ : ∃ z, z = u := ⟨_, rfl⟩
          obtain ⟨hw, hb195⟩ := hw
          rw [hw] at he
          try dsimp only at he
          replace hp := hp r195 u195_0 hw
          have hP : va_P D vwCl (W_L cI cJ q0 n1_0 n1_1 n1_2 n1_3 n1_4 n1_5 n1_6 n1_7 n1_8 n1_9 n1_10 n1_11 n1_12 n1_13 n1_14 q8 n2_0 n2_1 n2_2 n2_3 n2_4 n2_5 n2_6 n2_7 n2_8 n2_9 n2_10 o0 xr_23 xt_23 gn_23 gu_23 gb_23 ga_23 lc_23 lk_23 ln_23 lt_23 ll_23 lr_23 tw_23 tn_23 ts_23 tt_23 mr_23 mc_23 me_23 mw_23 u195_0 mn_23 mu_23 ms_23 mt_23 md_23 mz_23 mi_23 mk_23 mo_23 mj_23 ml_23 u193_0) H := hP
          have hD : va_D A (W_L cI cJ q0 n1_0 n1_1 n1_2 n1_3 n1_4 n1_5 n1_6 n1_7 n1_8 n1_9 n1_10 n1_11 n1_12 n1_13 n1_14 q8 n2_0 n2_1 n2_2 n2_3 n2_4 n2_5 n2_6 n2_7 n2_8 n2_9 n2_10 o0 xr_23 xt_23 gn_23 gu_23 gb_23 ga_23 lc_23 lk_23 ln_23 lt_23 ll_23 lr_23 tw_23 tn_23 ts_23 tt_23 mr_23 mc_23 me_23 mw_23 u195_0 mn_23 mu_23 ms_23 mt_23 md_23 mz_23 mi_23 mk_23 mo_23 mj_23 ml_23 u193_0) := hD
          refine lv_istore (lv' := [(6, .int r195), (5, .int r193), (4, .int v23_4), (3, .ref o0), (2, .ref q8), (1, .ref q0), (0, .ref b0)]) hx hb dL_law_1289 hl (by decide) rfl (fun ls hl => ?_)
          refine lv_aload_n hx hb dL_law_1291 rfl (lv_at hl 4 rfl) ?_
          refine k_calli (S := Unit) (wc := (W_X5 cI q8 n2_0 n2_1 n2_2 n2_3 n2_4 n2_5 n2_6 n2_7 n2_8 n2_9 n2_10 mr_23 mc_23 me_23 mw_23 u195_0 mn_23 mu_23 ms_23 mt_23 md_23 mz_23 mi_23 mk_23 mo_23 mj_23 ml_23)) (wr := (W_O cI cJ q0 n1_0 n1_1 n1_2 n1_3 n1_4 n1_5 n1_6 n1_7 n1_8 n1_9 n1_10 n1_11 n1_12 n1_13 n1_14 o0 xr_23 xt_23 gn_23 gu_23 gb_23 ga_23 lc_23 lk_23 ln_23 lt_23 ll_23 lr_23 tw_23 tn_23 ts_23 tt_23 u193_0)) (w1 := fun u => (W_X5 cI q8 n2_0 n2_1 n2_2 n2_3 n2_4 n2_5 n2_6 n2_7 n2_8 n2_9 n2_10 mr_23 mc_23 me_23 mw_23 u195_0 mn_23 mu_23 ms_23 mt_23 md_23 mz_23 mi_23 mk_23 mo_23 mj_23 ml_23)) (fun u => (W_L cI cJ q0 n1_0 n1_1 n1_2 n1_3 n1_4 n1_5 n1_6 n1_7 n1_8 n1_9 n1_10 n1_11 n1_12 n1_13 n1_14 q8 n2_0 n2_1 n2_2 n2_3 n2_4 n2_5 n2_6 n2_7 n2_8 n2_9 n2_10 o0 xr_23 xt_23 gn_23 gu_23 gb_23 ga_23 lc_23 lk_23 ln_23 lt_23 ll_23 lr_23 tw_23 tn_23 ts_23 tt_23 mr_23 mc_23 me_23 mw_23 u195_0 mn_23 mu_23 ms_23 mt_23 md_23 mz_23 mi_23 mk_23 mo_23 mj_23 ml_23 u193_0)) hP hK hD hN hS hA [16, 17, 18, 19, 20, 21, 22, 23, 24, 25, 26, 27] [0, 1, 2, 3, 4, 5, 6, 7, 8, 9, 10, 11, 12, 13, 14, 15, 28] rfl rfl (by decide) (by decide) (by decide) [0, 1, 2, 3, 4, 5, 6, 7, 8, 9, 10, 11, 12, 13, 14, 15, 17, 18, 19, 20, 21, 22, 23, 24, 25, 26, 27, 28, 16] (by decide) (fun _ => rfl) (fun hg => va_runV (As := []) (rest := []) ⟨hx, hb, hml, hown, hts⟩ (c_X5_thrown l D cI q8 n2_0 n2_1 n2_2 n2_3 n2_4 n2_5 n2_6 n2_7 n2_8 n2_9 n2_10 mr_23 mc_23 me_23 mw_23 u195_0 mn_23 mu_23 ms_23 mt_23 md_23 mz_23 mi_23 mk_23 mo_23 mj_23 ml_23 _ ) (cwV 0 hts gL_law_X5_thrown rfl rfl rfl (by decide +kernel) ⟨Nat.le_of_ble_eq_true rfl, Nat.le_of_ble_eq_true rfl⟩) ⟨PW.blind, va_recv hK hP (ci := 5) (q0 := 16) rfl rfl, fun U hU hW => ⟨rfl, hg U hU hW⟩⟩ rfl rfl hl.1 rfl (lv_room (Nat.le_of_ble_eq_true rfl)) dL_law_1292 ⟨(show (kc + 2) + 0 ≤ 601024 from by omega), (show (ks + 9) + 0 ≤ 7293034 from by omega)⟩) (fun r196 u H locs hw hP hD hS => ?_)
          subst hw
          refine lv_iload hx hb dL_law_1295 (lv_at hl 1 rfl) ?_
          refine lv_icmp_eq (tgt := 1302) hx hb dL_law_1297 (by decide) (fun c197 => ?_) (fun c197 => ?_)
          · replace hp := hp.1 c197
            replace he := he.trans (if_pos c197)
            refine lv_iload hx hb dL_law_1302 (lv_at hl 1 rfl) ?_
            refine lv_if_ne (tgt := 1326) hx hb dL_law_1304 (by decide) (fun c198 => ?_) (fun c198 => ?_)
            · replace hp := hp.2 c198
              replace he := he.trans (if_neg c198)
              refine lv_goto (tgt := 1579) hx hb dL_law_1326 (by decide) ?_
              refine lv_iinc (v := (v23_4 + 3)) (lv' := [(4, .int (v23_4 + 3)), (6, .int r195), (5, .int r193), (3, .ref o0), (2, .ref q8), (1, .ref q0), (0, .ref b0)]) hx hb dL_law_1579 hl (k := 2) rfl rfl (by decide) rfl (fun ls hl => ?_)
              refine lv_goto (tgt := 23) hx hb dL_law_1582 (by decide) ?_
              refine W.widen (k := kc + 2) (n := ks + 9) (by omega) (by omega) ?_
              exact ih _ _ _ _ _ _ _ _ _ _ _ _ _ _ _ _ _ _ _ _ _ _ _ _ _ _ _ _ _ _ _ _ _ _ (kc + 2) (ks + 9) (by omega) (by omega) hp he _ _ hP hD hS _ (lv_sub hl [0, 3, 4, 5, 6] rfl)
            · replace hp := hp.1 c198
              replace he := he.trans (if_pos c198)
              refine lv_aload_n hx hb dL_law_1307 rfl (lv_at hl 3 rfl) ?_
              refine lv_iconst (v := 0) hx hb dL_law_1308 (by decide) ?_
              refine va_lald hx hb hK hP 28 1 rfl rfl (by decide) dL_law_1309 ?_
              refine lv_iload hx hb dL_law_1310 (lv_at hl 0 rfl) ?_
              obtain ⟨j200, hJ200⟩ : ∃ z : Int64, z = (if r195 = 0 then (0 : Int64) else (1 : Int64)) := ⟨_, rfl⟩
              rw [← hJ200] at he
              try dsimp only at he
              have hpJ200 := hp.1
              replace hp := hp.2 _  hJ200.symm
              have kont200 : ∀ (H : Heap) (locs : List Loc), va_P D vwCl (W_L cI cJ q0 n1_0 n1_1 n1_2 n1_3 n1_4 n1_5 n1_6 n1_7 n1_8 n1_9 n1_10 n1_11 n1_12 n1_13 n1_14 q8 n2_0 n2_1 n2_2 n2_3 n2_4 n2_5 n2_6 n2_7 n2_8 n2_9 n2_10 o0 xr_23 xt_23 gn_23 gu_23 gb_23 ga_23 lc_23 lk_23 ln_23 lt_23 ll_23 lr_23 tw_23 tn_23 ts_23 tt_23 mr_23 mc_23 me_23 mw_23 u195_0 mn_23 mu_23 ms_23 mt_23 md_23 mz_23 mi_23 mk_23 mo_23 mj_23 ml_23 u193_0) H → va_D A (W_L cI cJ q0 n1_0 n1_1 n1_2 n1_3 n1_4 n1_5 n1_6 n1_7 n1_8 n1_9 n1_10 n1_11 n1_12 n1_13 n1_14 q8 n2_0 n2_1 n2_2 n2_3 n2_4 n2_5 n2_6 n2_7 n2_8 n2_9 n2_10 o0 xr_23 xt_23 gn_23 gu_23 gb_23 ga_23 lc_23 lk_23 ln_23 lt_23 ll_23 lr_23 tw_23 tn_23 ts_23 tt_23 mr_23 mc_23 me_23 mw_23 u195_0 mn_23 mu_23 ms_23 mt_23 md_23 mz_23 mi_23 mk_23 mo_23 mj_23 ml_23 u193_0) → va_S A s.heap H locs → ∀ ls : Array Slot, lv_has ls 7 [(4, .int v23_4), (3, .ref o0), (2, .ref q8), (1, .ref q0), (0, .ref b0)] → W p l e room_1 s m #[Value.ref b0] below meth c H locs (kc + 2) (ks + 9) (lw_Z below #[Value.ref b0] s) (F0 m 1320 ls [.long j200, .long (u193_0 (0 : Int32).toNatClampNeg)]) := by
                intro H locs hP hD hS ls hl
                refine W.lcmp hx hb dL_law_1320 ?_
                refine lv_if_eq (tgt := 1326) hx hb dL_law_1321 (by decide) (fun c202 => ?_) (fun c202 => ?_)
                · replace hp := hp.1 c202
                  replace he := he.trans (if_pos c202)
                  refine lv_goto (tgt := 1579) hx hb dL_law_1326 (by decide) ?_
                  refine lv_iinc (v := (v23_4 + 3)) (lv' := [(4, .int (v23_4 + 3)), (3, .ref o0), (2, .ref q8), (1, .ref q0), (0, .ref b0)]) hx hb dL_law_1579 hl (k := 0) rfl rfl (by decide) rfl (fun ls hl => ?_)
                  refine lv_goto (tgt := 23) hx hb dL_law_1582 (by decide) ?_
                  refine W.widen (k := kc + 2) (n := ks + 9) (by omega) (by omega) ?_
                  exact ih _ _ _ _ _ _ _ _ _ _ _ _ _ _ _ _ _ _ _ _ _ _ _ _ _ _ _ _ _ _ _ _ _ _ (kc + 2) (ks + 9) (by omega) (by omega) hp he _ _ hP hD hS _ (lv_sub hl [0, 1, 2, 3, 4] rfl)
                · replace hp := hp.2 c202
                  replace he := he.trans (if_neg c202)
                  refine lv_iconst (v := 0) hx hb dL_law_1324 (by decide) ?_
                  exact absurd he (by decide)
              replace he := hJ200
              replace hp := hpJ200
              refine lv_if_eq (tgt := 1319) hx hb dL_law_1312 (by decide) (fun c201 => ?_) (fun c201 => ?_)
              · replace hp := hp.1 c201
                replace he := he.trans (if_pos c201)
                refine lv_lconst (v := 0) hx hb dL_law_1319 rfl ?_
                subst he
                exact kont200 _ _ hP hD hS _ (lv_sub hl [2, 3, 4, 5, 6] rfl)
              · replace hp := hp.2 c201
                replace he := he.trans (if_neg c201)
                refine lv_lconst (v := 1) hx hb dL_law_1315 rfl ?_
                refine lv_goto (tgt := 1320) hx hb dL_law_1316 (by decide) ?_
                subst he
                exact kont200 _ _ hP hD hS _ (lv_sub hl [2, 3, 4, 5, 6] rfl)
          · replace hp := hp.2 c197
            replace he := he.trans (if_neg c197)
            refine lv_iconst (v := 0) hx hb dL_law_1300 (by decide) ?_
            exact absurd he (by decide)
        replace he := he.trans (if_neg s22)
        replace hp := hp.2 s22
        rcases Decidable.em (((xs (v23_4).toNatClampNeg) &&& 31) = 23) with s23 | s23
        · replace he := he.trans (if_pos s23)
          replace hp := hp.1 s23
          refine lv_tableIn (off := 1290) (tgt := 1329) hx hb dL_law_39 (by rw [s23]; decide) (by rw [s23]; decide) (by rw [s23]; rfl) (by decide) ?_
          refine lv_aload_n hx hb dL_law_1329 rfl (lv_at hl 3 rfl) ?_
          have hq203 := hp.1
          replace hp := hp.2
          refine k_calli (S := Unit) (wc := (W_X4 cI q0 n1_0 n1_1 n1_2 n1_3 n1_4 n1_5 n1_6 n1_7 n1_8 n1_9 n1_10 n1_11 n1_12 n1_13 n1_14 xr_23 xt_23 gn_23 gu_23 gb_23 ga_23 lc_23 lk_23 ln_23 lt_23 ll_23 lr_23 tw_23 tn_23 ts_23 tt_23)) (wr := ((W_X5 cI q8 n2_0 n2_1 n2_2 n2_3 n2_4 n2_5 n2_6 n2_7 n2_8 n2_9 n2_10 mr_23 mc_23 me_23 mw_23 mh_23 mn_23 mu_23 ms_23 mt_23 md_23 mz_23 mi_23 mk_23 mo_23 mj_23 ml_23) ++ [(o0, .inl (cJ, 1, .inr (.inl oo_23)))])) (w1 := fun u => (W_X4 cI q0 n1_0 n1_1 n1_2 n1_3 n1_4 n1_5 n1_6 n1_7 n1_8 n1_9 n1_10 n1_11 n1_12 n1_13 n1_14 xr_23 xt_23 gn_23 gu_23 gb_23 ga_23 lc_23 lk_23 ln_23 lt_23 ll_23 lr_23 tw_23 tn_23 ts_23 tt_23)) (fun u => (W_L cI cJ q0 n1_0 n1_1 n1_2 n1_3 n1_4 n1_5 n1_6 n1_7 n1_8 n1_9 n1_10 n1_11 n1_12 n1_13 n1_14 q8 n2_0 n2_1 n2_2 n2_3 n2_4 n2_5 n2_6 n2_7 n2_8 n2_9 n2_10 o0 xr_23 xt_23 gn_23 gu_23 gb_23 ga_23 lc_23 lk_23 ln_23 lt_23 ll_23 lr_23 tw_23 tn_23 ts_23 tt_23 mr_23 mc_23 me_23 mw_23 mh_23 mn_23 mu_23 ms_23 mt_23 md_23 mz_23 mi_23 mk_23 mo_23 mj_23 ml_23 oo_23)) hP hK hD hN hS hA [0, 1, 2, 3, 4, 5, 6, 7, 8, 9, 10, 11, 12, 13, 14, 15] [16, 17, 18, 19, 20, 21, 22, 23, 24, 25, 26, 27, 28] rfl rfl (by decide) (by decide) (by decide) [13, 14, 15, 16, 17, 18, 19, 20, 21, 22, 23, 24, 25, 26, 27, 28, 0, 1, 2, 3, 4, 5, 6, 7, 8, 9, 10, 11, 12] (by decide) (fun _ => rfl) (fun hg => va_runV (As := []) (rest := []) ⟨hx, hb, hml, hown, hts⟩ (c_X4_causes l D cI q0 n1_0 n1_1 n1_2 n1_3 n1_4 n1_5 n1_6 n1_7 n1_8 n1_9 n1_10 n1_11 n1_12 n1_13 n1_14 xr_23 xt_23 gn_23 gu_23 gb_23 ga_23 lc_23 lk_23 ln_23 lt_23 ll_23 lr_23 tw_23 tn_23 ts_23 tt_23 _ hq203) (cwV 0 hts gL_law_X4_causes rfl rfl rfl (by decide +kernel) ⟨Nat.le_of_ble_eq_true rfl, Nat.le_of_ble_eq_true rfl⟩) ⟨PW.blind, va_recv hK hP (ci := 4) (q0 := 0) rfl rfl, fun U hU hW => ⟨rfl, hg U hU hW⟩⟩ rfl rfl hl.1 rfl (lv_room (Nat.le_of_ble_eq_true rfl)) dL_law_1330 ⟨(show kc + 1 ≤ 601024 from by omega), (show ks + 3 ≤ 7293034 from by omega)⟩) (fun r203 u H locs hw hP hD hS => ?_)
          subst hw
          refine lv_aload_n hx hb dL_law_1333 rfl (lv_at hl 2 rfl) ?_
          have hq204 := hp.1
          replace hp := hp.2
          refine k_calli (S := Int32) (wc := (W_X5 cI q8 n2_0 n2_1 n2_2 n2_3 n2_4 n2_5 n2_6 n2_7 n2_8 n2_9 n2_10 mr_23 mc_23 me_23 mw_23 mh_23 mn_23 mu_23 ms_23 mt_23 md_23 mz_23 mi_23 mk_23 mo_23 mj_23 ml_23)) (wr := (W_O cI cJ q0 n1_0 n1_1 n1_2 n1_3 n1_4 n1_5 n1_6 n1_7 n1_8 n1_9 n1_10 n1_11 n1_12 n1_13 n1_14 o0 xr_23 xt_23 gn_23 gu_23 gb_23 ga_23 lc_23 lk_23 ln_23 lt_23 ll_23 lr_23 tw_23 tn_23 ts_23 tt_23 oo_23)) (w1 := fun u => (W_X5 cI q8 n2_0 n2_1 n2_2 n2_3 n2_4 n2_5 n2_6 n2_7 n2_8 n2_9 n2_10 mr_23 mc_23 me_23 mw_23 u mn_23 mu_23 ms_23 mt_23 md_23 mz_23 mi_23 mk_23 mo_23 mj_23 ml_23)) (fun u => (W_L cI cJ q0 n1_0 n1_1 n1_2 n1_3 n1_4 n1_5 n1_6 n1_7 n1_8 n1_9 n1_10 n1_11 n1_12 n1_13 n1_14 q8 n2_0 n2_1 n2_2 n2_3 n2_4 n2_5 n2_6 n2_7 n2_8 n2_9 n2_10 o0 xr_23 xt_23 gn_23 gu_23 gb_23 ga_23 lc_23 lk_23 ln_23 lt_23 ll_23 lr_23 tw_23 tn_23 ts_23 tt_23 mr_23 mc_23 me_23 mw_23 u mn_23 mu_23 ms_23 mt_23 md_23 mz_23 mi_23 mk_23 mo_23 mj_23 ml_23 oo_23)) hP hK hD hN hS hA [16, 17, 18, 19, 20, 21, 22, 23, 24, 25, 26, 27] [0, 1, 2, 3, 4, 5, 6, 7, 8, 9, 10, 11, 12, 13, 14, 15, 28] rfl rfl (by decide) (by decide) (by decide) [0, 1, 2, 3, 4, 5, 6, 7, 8, 9, 10, 11, 12, 13, 14, 15, 17, 18, 19, 20, 21, 22, 23, 24, 25, 26, 27, 28, 16] (by decide) (fun _ => rfl) (fun hg => va_runV (As := []) (rest := [.int (f_X4_causes xr_23 gu_23 gb_23 ga_23)]) ⟨hx, hb, hml, hown, hts⟩ (c_X5_causes l D cI q8 n2_0 n2_1 n2_2 n2_3 n2_4 n2_5 n2_6 n2_7 n2_8 n2_9 n2_10 mr_23 mc_23 me_23 mw_23 mh_23 mn_23 mu_23 ms_23 mt_23 md_23 mz_23 mi_23 mk_23 mo_23 mj_23 ml_23 _ hq204) (cwV 0 hts gL_law_X5_causes rfl rfl rfl (by decide +kernel) ⟨Nat.le_of_ble_eq_true rfl, Nat.le_of_ble_eq_true rfl⟩) ⟨PW.blind, va_recv hK hP (ci := 5) (q0 := 16) rfl rfl, fun U hU hW => ⟨rfl, hg U hU hW⟩⟩ rfl rfl hl.1 rfl (lv_room (Nat.le_of_ble_eq_true rfl)) dL_law_1334 ⟨(show (kc + 1) + 0 ≤ 601024 from by omega), (show (ks + 3) + 0 ≤ 7293034 from by omega)⟩) (fun r204 u H locs hw hP hD hS => ?_)
          obtain ⟨u204_0, rfl⟩ : ∃ z, z = u := ⟨_, rfl⟩
          rw [hw] at he
          try dsimp only at he
          replace hp := hp r204 u204_0 hw
          have hP : va_P D vwCl (W_L cI cJ q0 n1_0 n1_1 n1_2 n1_3 n1_4 n1_5 n1_6 n1_7 n1_8 n1_9 n1_10 n1_11 n1_12 n1_13 n1_14 q8 n2_0 n2_1 n2_2 n2_3 n2_4 n2_5 n2_6 n2_7 n2_8 n2_9 n2_10 o0 xr_23 xt_23 gn_23 gu_23 gb_23 ga_23 lc_23 lk_23 ln_23 lt_23 ll_23 lr_23 tw_23 tn_23 ts_23 tt_23 mr_23 mc_23 me_23 mw_23 u204_0 mn_23 mu_23 ms_23 mt_23 md_23 mz_23 mi_23 mk_23 mo_23 mj_23 ml_23 oo_23) H := hP
          have hD : va_D A (W_L cI cJ q0 n1_0 n1_1 n1_2 n1_3 n1_4 n1_5 n1_6 n1_7 n1_8 n1_9 n1_10 n1_11 n1_12 n1_13 n1_14 q8 n2_0 n2_1 n2_2 n2_3 n2_4 n2_5 n2_6 n2_7 n2_8 n2_9 n2_10 o0 xr_23 xt_23 gn_23 gu_23 gb_23 ga_23 lc_23 lk_23 ln_23 lt_23 ll_23 lr_23 tw_23 tn_23 ts_23 tt_23 mr_23 mc_23 me_23 mw_23 u204_0 mn_23 mu_23 ms_23 mt_23 md_23 mz_23 mi_23 mk_23 mo_23 mj_23 ml_23 oo_23) := hD
          refine lv_icmp_eq (tgt := 1579) hx hb dL_law_1337 (by decide) (fun c205 => ?_) (fun c205 => ?_)
          · replace hp := hp.1 c205
            replace he := he.trans (if_pos c205)
            refine lv_iinc (v := (v23_4 + 3)) (lv' := [(4, .int (v23_4 + 3)), (3, .ref o0), (2, .ref q8), (1, .ref q0), (0, .ref b0)]) hx hb dL_law_1579 hl (k := 0) rfl rfl (by decide) rfl (fun ls hl => ?_)
            refine lv_goto (tgt := 23) hx hb dL_law_1582 (by decide) ?_
            refine W.widen (k := kc + 2) (n := ks + 9) (by omega) (by omega) ?_
            exact ih _ _ _ _ _ _ _ _ _ _ _ _ _ _ _ _ _ _ _ _ _ _ _ _ _ _ _ _ _ _ _ _ _ _ (kc + 2) (ks + 9) (by omega) (by omega) hp he _ _ hP hD hS _ (lv_sub hl [0, 1, 2, 3, 4] rfl)
          · replace hp := hp.2 c205
            replace he := he.trans (if_neg c205)
            refine lv_iconst (v := 0) hx hb dL_law_1340 (by decide) ?_
            exact absurd he (by decide)
        replace he := he.trans (if_neg s23)
        replace hp := hp.2 s23
        rcases Decidable.em (((xs (v23_4).toNatClampNeg) &&& 31) = 24) with s24 | s24
        · replace he := he.trans (if_pos s24)
          replace hp := hp.1 s24
          refine lv_tableIn (off := 1303) (tgt := 1342) hx hb dL_law_39 (by rw [s24]; decide) (by rw [s24]; decide) (by rw [s24]; rfl) (by decide) ?_
          refine lv_aload_n hx hb dL_law_1342 rfl (lv_at hl 3 rfl) ?_
          refine lv_aload_n hx hb dL_law_1343 rfl (lv_at hl 4 rfl) ?_
          refine lv_iload hx hb dL_law_1344 (lv_at hl 0 rfl) ?_
          refine lv_iconst (v := 1) hx hb dL_law_1346 (by decide) ?_
          refine lv_iadd hx hb dL_law_1347 ?_
          have h206 := hp.1
          replace hp := hp.2
          refine va_sld hx hb hX hbl hbA hS h206 dL_law_1348 ?_
          refine lv_aload_n hx hb dL_law_1349 rfl (lv_at hl 1 rfl) ?_
          have hq207 := hp.1
          replace hp := hp.2
          refine k_ycalli (S := LA) (wc := (W_O cI cJ q0 n1_0 n1_1 n1_2 n1_3 n1_4 n1_5 n1_6 n1_7 n1_8 n1_9 n1_10 n1_11 n1_12 n1_13 n1_14 o0 xr_23 xt_23 gn_23 gu_23 gb_23 ga_23 lc_23 lk_23 ln_23 lt_23 ll_23 lr_23 tw_23 tn_23 ts_23 tt_23 oo_23)) (wr := (W_X5 cI q8 n2_0 n2_1 n2_2 n2_3 n2_4 n2_5 n2_6 n2_7 n2_8 n2_9 n2_10 mr_23 mc_23 me_23 mw_23 mh_23 mn_23 mu_23 ms_23 mt_23 md_23 mz_23 mi_23 mk_23 mo_23 mj_23 ml_23)) (w1 := fun u => (W_O cI cJ q0 n1_0 n1_1 n1_2 n1_3 n1_4 n1_5 n1_6 n1_7 n1_8 n1_9 n1_10 n1_11 n1_12 n1_13 n1_14 o0 xr_23 xt_23 gn_23 gu_23 gb_23 ga_23 lc_23 lk_23 ln_23 lt_23 ll_23 lr_23 tw_23 tn_23 ts_23 tt_23 u)) (fun u => (W_L cI cJ q0 n1_0 n1_1 n1_2 n1_3 n1_4 n1_5 n1_6 n1_7 n1_8 n1_9 n1_10 n1_11 n1_12 n1_13 n1_14 q8 n2_0 n2_1 n2_2 n2_3 n2_4 n2_5 n2_6 n2_7 n2_8 n2_9 n2_10 o0 xr_23 xt_23 gn_23 gu_23 gb_23 ga_23 lc_23 lk_23 ln_23 lt_23 ll_23 lr_23 tw_23 tn_23 ts_23 tt_23 mr_23 mc_23 me_23 mw_23 mh_23 mn_23 mu_23 ms_23 mt_23 md_23 mz_23 mi_23 mk_23 mo_23 mj_23 ml_23 u)) hP hK hD hN hXB hS hA [0, 1, 2, 3, 4, 5, 6, 7, 8, 9, 10, 11, 12, 13, 14, 15, 28] [16, 17, 18, 19, 20, 21, 22, 23, 24, 25, 26, 27] rfl rfl (by decide) (by decide) (by decide) [12, 13, 14, 15, 16, 17, 18, 19, 20, 21, 22, 23, 24, 25, 26, 27, 0, 1, 2, 3, 4, 5, 6, 7, 8, 9, 10, 11, 28] (by decide) (fun _ => rfl) (fun hg => va_runS (As := [.ref q0, .int (xs ((v23_4 + 1)).toNatClampNeg), .ref o0]) (rest := []) ⟨hx, hb, hml, hown, hts⟩ (c_L_cause l D cI cJ q0 n1_0 n1_1 n1_2 n1_3 n1_4 n1_5 n1_6 n1_7 n1_8 n1_9 n1_10 n1_11 n1_12 n1_13 n1_14 o0 xr_23 xt_23 gn_23 gu_23 gb_23 ga_23 lc_23 lk_23 ln_23 lt_23 ll_23 lr_23 tw_23 tn_23 ts_23 tt_23 oo_23 _ (xs ((v23_4 + 1)).toNatClampNeg) hq207 hst) (va_cwS 3 hts gL_law_L_cause rfl rfl rfl (by decide +kernel) ⟨Nat.le_of_ble_eq_true rfl, Nat.le_of_ble_eq_true rfl⟩) ⟨PX.blind, fun U hU hW => ⟨rfl, hg U hU hW⟩⟩ rfl rfl hl.1 rfl (lv_room (Nat.le_of_ble_eq_true rfl)) dL_law_1350 ⟨(show kc + 2 ≤ 601024 from by omega), (show ks + 9 ≤ 7293034 from by omega)⟩) (fun r207 u H locs hw hP hD hS => ?_)
          obtain ⟨u207_0, rfl⟩ : ∃ z, z = u := ⟨_, rfl⟩
          rw [hw] at he
          try dsimp only at he
          replace hp := hp r207 u207_0 hw
          have hP : va_P D vwCl (W_L cI cJ q0 n1_0 n1_1 n1_2 n1_3 n1_4 n1_5 n1_6 n1_7 n1_8 n1_9 n1_10 n1_11 n1_12 n1_13 n1_14 q8 n2_0 n2_1 n2_2 n2_3 n2_4 n2_5 n2_6 n2_7 n2_8 n2_9 n2_10 o0 xr_23 xt_23 gn_23 gu_23 gb_23 ga_23 lc_23 lk_23 ln_23 lt_23 ll_23 lr_23 tw_23 tn_23 ts_23 tt_23 mr_23 mc_23 me_23 mw_23 mh_23 mn_23 mu_23 ms_23 mt_23 md_23 mz_23 mi_23 mk_23 mo_23 mj_23 ml_23 u207_0) H := hP
          have hD : va_D A (W_L cI cJ q0 n1_0 n1_1 n1_2 n1_3 n1_4 n1_5 n1_6 n1_7 n1_8 n1_9 n1_10 n1_11 n1_12 n1_13 n1_14 q8 n2_0 n2_1 n2_2 n2_3 n2_4 n2_5 n2_6 n2_7 n2_8 n2_9 n2_10 o0 xr_23 xt_23 gn_23 gu_23 gb_23 ga_23 lc_23 lk_23 ln_23 lt_23 ll_23 lr_23 tw_23 tn_23 ts_23 tt_23 mr_23 mc_23 me_23 mw_23 mh_23 mn_23 mu_23 ms_23 mt_23 md_23 mz_23 mi_23 mk_23 mo_23 mj_23 ml_23 u207_0) := hD
          refine lv_istore (lv' := [(5, .int r207), (4, .int v23_4), (3, .ref o0), (2, .ref q8), (1, .ref q0), (0, .ref b0)]) hx hb dL_law_1353 hl (by decide) rfl (fun ls hl => ?_)
          refine lv_aload_n hx hb dL_law_1355 rfl (lv_at hl 3 rfl) ?_
          refine lv_aload_n hx hb dL_law_1356 rfl (lv_at hl 5 rfl) ?_
          refine lv_iload hx hb dL_law_1357 (lv_at hl 1 rfl) ?_
          refine lv_iconst (v := 1) hx hb dL_law_1359 (by decide) ?_
          refine lv_iadd hx hb dL_law_1360 ?_
          have h208 := hp.1
          replace hp := hp.2
          refine va_sld hx hb hX hbl hbA hS h208 dL_law_1361 ?_
          have hq209 := hp.1
          replace hp := hp.2
          refine k_calli (S := Int32) (wc := (W_X5 cI q8 n2_0 n2_1 n2_2 n2_3 n2_4 n2_5 n2_6 n2_7 n2_8 n2_9 n2_10 mr_23 mc_23 me_23 mw_23 mh_23 mn_23 mu_23 ms_23 mt_23 md_23 mz_23 mi_23 mk_23 mo_23 mj_23 ml_23)) (wr := (W_O cI cJ q0 n1_0 n1_1 n1_2 n1_3 n1_4 n1_5 n1_6 n1_7 n1_8 n1_9 n1_10 n1_11 n1_12 n1_13 n1_14 o0 xr_23 xt_23 gn_23 gu_23 gb_23 ga_23 lc_23 lk_23 ln_23 lt_23 ll_23 lr_23 tw_23 tn_23 ts_23 tt_23 u207_0)) (w1 := fun u => (W_X5 cI q8 n2_0 n2_1 n2_2 n2_3 n2_4 n2_5 n2_6 n2_7 n2_8 n2_9 n2_10 mr_23 mc_23 me_23 mw_23 u mn_23 mu_23 ms_23 mt_23 md_23 mz_23 mi_23 mk_23 mo_23 mj_23 ml_23)) (fun u => (W_L cI cJ q0 n1_0 n1_1 n1_2 n1_3 n1_4 n1_5 n1_6 n1_7 n1_8 n1_9 n1_10 n1_11 n1_12 n1_13 n1_14 q8 n2_0 n2_1 n2_2 n2_3 n2_4 n2_5 n2_6 n2_7 n2_8 n2_9 n2_10 o0 xr_23 xt_23 gn_23 gu_23 gb_23 ga_23 lc_23 lk_23 ln_23 lt_23 ll_23 lr_23 tw_23 tn_23 ts_23 tt_23 mr_23 mc_23 me_23 mw_23 u mn_23 mu_23 ms_23 mt_23 md_23 mz_23 mi_23 mk_23 mo_23 mj_23 ml_23 u207_0)) hP hK hD hN hS hA [16, 17, 18, 19, 20, 21, 22, 23, 24, 25, 26, 27] [0, 1, 2, 3, 4, 5, 6, 7, 8, 9, 10, 11, 12, 13, 14, 15, 28] rfl rfl (by decide) (by decide) (by decide) [0, 1, 2, 3, 4, 5, 6, 7, 8, 9, 10, 11, 12, 13, 14, 15, 17, 18, 19, 20, 21, 22, 23, 24, 25, 26, 27, 28, 16] (by decide) (fun _ => rfl) (fun hg => va_runV (As := [.int (xs ((v23_4 + 1)).toNatClampNeg)]) (rest := []) ⟨hx, hb, hml, hown, hts⟩ (c_X5_cause l D cI q8 n2_0 n2_1 n2_2 n2_3 n2_4 n2_5 n2_6 n2_7 n2_8 n2_9 n2_10 mr_23 mc_23 me_23 mw_23 mh_23 mn_23 mu_23 ms_23 mt_23 md_23 mz_23 mi_23 mk_23 mo_23 mj_23 ml_23 _ (xs ((v23_4 + 1)).toNatClampNeg) hq209) (cwV 1 hts gL_law_X5_cause rfl rfl rfl (by decide +kernel) ⟨Nat.le_of_ble_eq_true rfl, Nat.le_of_ble_eq_true rfl⟩) ⟨PW.blind, va_recv hK hP (ci := 5) (q0 := 16) rfl rfl, fun U hU hW => ⟨rfl, hg U hU hW⟩⟩ rfl rfl hl.1 rfl (lv_room (Nat.le_of_ble_eq_true rfl)) dL_law_1362 ⟨(show (kc + 2) + 0 ≤ 601024 from by omega), (show (ks + 9) + 0 ≤ 7293034 from by omega)⟩) (fun r209 u H locs hw hP hD hS => ?_)
          obtain ⟨u209_0, rfl⟩ : ∃ z, z = u := ⟨_, rfl⟩
          rw [hw] at he
          try dsimp only at he
          replace hp := hp r209 u209_0 hw
          have hP : va_P D vwCl (W_L cI cJ q0 n1_0 n1_1 n1_2 n1_3 n1_4 n1_5 n1_6 n1_7 n1_8 n1_9 n1_10 n1_11 n1_12 n1_13 n1_14 q8 n2_0 n2_1 n2_2 n2_3 n2_4 n2_5 n2_6 n2_7 n2_8 n2_9 n2_10 o0 xr_23 xt_23 gn_23 gu_23 gb_23 ga_23 lc_23 lk_23 ln_23 lt_23 ll_23 lr_23 tw_23 tn_23 ts_23 tt_23 mr_23 mc_23 me_23 mw_23 u209_0 mn_23 mu_23 ms_23 mt_23 md_23 mz_23 mi_23 mk_23 mo_23 mj_23 ml_23 u207_0) H := hP
          have hD : va_D A (W_L cI cJ q0 n1_0 n1_1 n1_2 n1_3 n1_4 n1_5 n1_6 n1_7 n1_8 n1_9 n1_10 n1_11 n1_12 n1_13 n1_14 q8 n2_0 n2_1 n2_2 n2_3 n2_4 n2_5 n2_6 n2_7 n2_8 n2_9 n2_10 o0 xr_23 xt_23 gn_23 gu_23 gb_23 ga_23 lc_23 lk_23 ln_23 lt_23 ll_23 lr_23 tw_23 tn_23 ts_23 tt_23 mr_23 mc_23 me_23 mw_23 u209_0 mn_23 mu_23 ms_23 mt_23 md_23 mz_23 mi_23 mk_23 mo_23 mj_23 ml_23 u207_0) := hD
          refine lv_istore (lv' := [(6, .int r209), (5, .int r207), (4, .int v23_4), (3, .ref o0), (2, .ref q8), (1, .ref q0), (0, .ref b0)]) hx hb dL_law_1365 hl (by decide) rfl (fun ls hl => ?_)
          refine lv_aload_n hx hb dL_law_1367 rfl (lv_at hl 4 rfl) ?_
          refine k_calli (S := Unit) (wc := (W_X5 cI q8 n2_0 n2_1 n2_2 n2_3 n2_4 n2_5 n2_6 n2_7 n2_8 n2_9 n2_10 mr_23 mc_23 me_23 mw_23 u209_0 mn_23 mu_23 ms_23 mt_23 md_23 mz_23 mi_23 mk_23 mo_23 mj_23 ml_23)) (wr := (W_O cI cJ q0 n1_0 n1_1 n1_2 n1_3 n1_4 n1_5 n1_6 n1_7 n1_8 n1_9 n1_10 n1_11 n1_12 n1_13 n1_14 o0 xr_23 xt_23 gn_23 gu_23 gb_23 ga_23 lc_23 lk_23 ln_23 lt_23 ll_23 lr_23 tw_23 tn_23 ts_23 tt_23 u207_0)) (w1 := fun u => (W_X5 cI q8 n2_0 n2_1 n2_2 n2_3 n2_4 n2_5 n2_6 n2_7 n2_8 n2_9 n2_10 mr_23 mc_23 me_23 mw_23 u209_0 mn_23 mu_23 ms_23 mt_23 md_23 mz_23 mi_23 mk_23 mo_23 mj_23 ml_23)) (fun u => (W_L cI cJ q0 n1_0 n1_1 n1_2 n1_3 n1_4 n1_5 n1_6 n1_7 n1_8 n1_9 n1_10 n1_11 n1_12 n1_13 n1_14 q8 n2_0 n2_1 n2_2 n2_3 n2_4 n2_5 n2_6 n2_7 n2_8 n2_9 n2_10 o0 xr_23 xt_23 gn_23 gu_23 gb_23 ga_23 lc_23 lk_23 ln_23 lt_23 ll_23 lr_23 tw_23 tn_23 ts_23 tt_23 mr_23 mc_23 me_23 mw_23 u209_0 mn_23 mu_23 ms_23 mt_23 md_23 mz_23 mi_23 mk_23 mo_23 mj_23 ml_23 u207_0)) hP hK hD hN hS hA [16, 17, 18, 19, 20, 21, 22, 23, 24, 25, 26, 27] [0, 1, 2, 3, 4, 5, 6, 7, 8, 9, 10, 11, 12, 13, 14, 15, 28] rfl rfl (by decide) (by decide) (by decide) [0, 1, 2, 3, 4, 5, 6, 7, 8, 9, 10, 11, 12, 13, 14, 15, 17, 18, 19, 20, 21, 22, 23, 24, 25, 26, 27, 28, 16] (by decide) (fun _ => rfl) (fun hg => va_runV (As := []) (rest := []) ⟨hx, hb, hml, hown, hts⟩ (c_X5_thrown l D cI q8 n2_0 n2_1 n2_2 n2_3 n2_4 n2_5 n2_6 n2_7 n2_8 n2_9 n2_10 mr_23 mc_23 me_23 mw_23 u209_0 mn_23 mu_23 ms_23 mt_23 md_23 mz_23 mi_23 mk_23 mo_23 mj_23 ml_23 _ ) (cwV 0 hts gL_law_X5_thrown rfl rfl rfl (by decide +kernel) ⟨Nat.le_of_ble_eq_true rfl, Nat.le_of_ble_eq_true rfl⟩) ⟨PW.blind, va_recv hK hP (ci := 5) (q0 := 16) rfl rfl, fun U hU hW => ⟨rfl, hg U hU hW⟩⟩ rfl rfl hl.1 rfl (lv_room (Nat.le_of_ble_eq_true rfl)) dL_law_1368 ⟨(show (kc + 2) + 0 ≤ 601024 from by omega), (show (ks + 9) + 0 ≤ 7293034 from by omega)⟩) (fun r210 u H locs hw hP hD hS => ?_)
          subst hw
          refine lv_iload hx hb dL_law_1371 (lv_at hl 1 rfl) ?_
          refine lv_icmp_eq (tgt := 1378) hx hb dL_law_1373 (by decide) (fun c211 => ?_) (fun c211 => ?_)
          · replace hp := hp.1 c211
            replace he := he.trans (if_pos c211)
            refine lv_iload hx hb dL_law_1378 (lv_at hl 1 rfl) ?_
            refine lv_if_ne (tgt := 1395) hx hb dL_law_1380 (by decide) (fun c212 => ?_) (fun c212 => ?_)
            · replace hp := hp.2 c212
              replace he := he.trans (if_neg c212)
              refine lv_goto (tgt := 1579) hx hb dL_law_1395 (by decide) ?_
              refine lv_iinc (v := (v23_4 + 3)) (lv' := [(4, .int (v23_4 + 3)), (6, .int r209), (5, .int r207), (3, .ref o0), (2, .ref q8), (1, .ref q0), (0, .ref b0)]) hx hb dL_law_1579 hl (k := 2) rfl rfl (by decide) rfl (fun ls hl => ?_)
              refine lv_goto (tgt := 23) hx hb dL_law_1582 (by decide) ?_
              refine W.widen (k := kc + 2) (n := ks + 9) (by omega) (by omega) ?_
              exact ih _ _ _ _ _ _ _ _ _ _ _ _ _ _ _ _ _ _ _ _ _ _ _ _ _ _ _ _ _ _ _ _ _ _ (kc + 2) (ks + 9) (by omega) (by omega) hp he _ _ hP hD hS _ (lv_sub hl [0, 3, 4, 5, 6] rfl)
            · replace hp := hp.1 c212
              replace he := he.trans (if_pos c212)
              refine lv_aload_n hx hb dL_law_1383 rfl (lv_at hl 3 rfl) ?_
              refine lv_iconst (v := 0) hx hb dL_law_1384 (by decide) ?_
              refine va_lald hx hb hK hP 28 1 rfl rfl (by decide) dL_law_1385 ?_
              refine lv_iload hx hb dL_law_1386 (lv_at hl 0 rfl) ?_
              refine lv_i2l (v := (r209).toInt64) hx hb dL_law_1388 rfl ?_
              refine W.lcmp hx hb dL_law_1389 ?_
              refine lv_if_eq (tgt := 1395) hx hb dL_law_1390 (by decide) (fun c214 => ?_) (fun c214 => ?_)
              · replace hp := hp.1 c214
                replace he := he.trans (if_pos c214)
                refine lv_goto (tgt := 1579) hx hb dL_law_1395 (by decide) ?_
                refine lv_iinc (v := (v23_4 + 3)) (lv' := [(4, .int (v23_4 + 3)), (6, .int r209), (5, .int r207), (3, .ref o0), (2, .ref q8), (1, .ref q0), (0, .ref b0)]) hx hb dL_law_1579 hl (k := 2) rfl rfl (by decide) rfl (fun ls hl => ?_)
                refine lv_goto (tgt := 23) hx hb dL_law_1582 (by decide) ?_
                refine W.widen (k := kc + 2) (n := ks + 9) (by omega) (by omega) ?_
                exact ih _ _ _ _ _ _ _ _ _ _ _ _ _ _ _ _ _ _ _ _ _ _ _ _ _ _ _ _ _ _ _ _ _ _ (kc + 2) (ks + 9) (by omega) (by omega) hp he _ _ hP hD hS _ (lv_sub hl [0, 3, 4, 5, 6] rfl)
              · replace hp := hp.2 c214
                replace he := he.trans (if_neg c214)
                refine lv_iconst (v := 0) hx hb dL_law_1393 (by decide) ?_
                exact absurd he (by decide)
          · replace hp := hp.2 c211
            replace he := he.trans (if_neg c211)
            refine lv_iconst (v := 0) hx hb dL_law_1376 (by decide) ?_
            exact absurd he (by decide)
        replace he := he.trans (if_neg s24)
        replace hp := hp.2 s24
        rcases Decidable.em (((xs (v23_4).toNatClampNeg) &&& 31) = 25) with s25 | s25
        · replace he := he.trans (if_pos s25)
          replace hp := hp.1 s25
          refine lv_tableIn (off := 1359) (tgt := 1398) hx hb dL_law_39 (by rw [s25]; decide) (by rw [s25]; decide) (by rw [s25]; rfl) (by decide) ?_
          refine lv_aload_n hx hb dL_law_1398 rfl (lv_at hl 3 rfl) ?_
          refine lv_aload_n hx hb dL_law_1399 rfl (lv_at hl 4 rfl) ?_
          refine lv_iload hx hb dL_law_1400 (lv_at hl 0 rfl) ?_
          refine lv_iconst (v := 1) hx hb dL_law_1402 (by decide) ?_
          refine lv_iadd hx hb dL_law_1403 ?_
          have h215 := hp.1
          replace hp := hp.2
          refine va_sld hx hb hX hbl hbA hS h215 dL_law_1404 ?_
          refine lv_aload_n hx hb dL_law_1405 rfl (lv_at hl 1 rfl) ?_
          have hq216 := hp.1
          replace hp := hp.2
          refine k_ycalli (S := LA) (wc := (W_O cI cJ q0 n1_0 n1_1 n1_2 n1_3 n1_4 n1_5 n1_6 n1_7 n1_8 n1_9 n1_10 n1_11 n1_12 n1_13 n1_14 o0 xr_23 xt_23 gn_23 gu_23 gb_23 ga_23 lc_23 lk_23 ln_23 lt_23 ll_23 lr_23 tw_23 tn_23 ts_23 tt_23 oo_23)) (wr := (W_X5 cI q8 n2_0 n2_1 n2_2 n2_3 n2_4 n2_5 n2_6 n2_7 n2_8 n2_9 n2_10 mr_23 mc_23 me_23 mw_23 mh_23 mn_23 mu_23 ms_23 mt_23 md_23 mz_23 mi_23 mk_23 mo_23 mj_23 ml_23)) (w1 := fun u => (W_O cI cJ q0 n1_0 n1_1 n1_2 n1_3 n1_4 n1_5 n1_6 n1_7 n1_8 n1_9 n1_10 n1_11 n1_12 n1_13 n1_14 o0 xr_23 xt_23 gn_23 gu_23 gb_23 ga_23 lc_23 lk_23 ln_23 lt_23 ll_23 lr_23 tw_23 tn_23 ts_23 tt_23 u)) (fun u => (W_L cI cJ q0 n1_0 n1_1 n1_2 n1_3 n1_4 n1_5 n1_6 n1_7 n1_8 n1_9 n1_10 n1_11 n1_12 n1_13 n1_14 q8 n2_0 n2_1 n2_2 n2_3 n2_4 n2_5 n2_6 n2_7 n2_8 n2_9 n2_10 o0 xr_23 xt_23 gn_23 gu_23 gb_23 ga_23 lc_23 lk_23 ln_23 lt_23 ll_23 lr_23 tw_23 tn_23 ts_23 tt_23 mr_23 mc_23 me_23 mw_23 mh_23 mn_23 mu_23 ms_23 mt_23 md_23 mz_23 mi_23 mk_23 mo_23 mj_23 ml_23 u)) hP hK hD hN hXB hS hA [0, 1, 2, 3, 4, 5, 6, 7, 8, 9, 10, 11, 12, 13, 14, 15, 28] [16, 17, 18, 19, 20, 21, 22, 23, 24, 25, 26, 27] rfl rfl (by decide) (by decide) (by decide) [12, 13, 14, 15, 16, 17, 18, 19, 20, 21, 22, 23, 24, 25, 26, 27, 0, 1, 2, 3, 4, 5, 6, 7, 8, 9, 10, 11, 28] (by decide) (fun _ => rfl) (fun hg => va_runS (As := [.ref q0, .int (xs ((v23_4 + 1)).toNatClampNeg), .ref o0]) (rest := []) ⟨hx, hb, hml, hown, hts⟩ (c_L_causeByTrying l D cI cJ q0 n1_0 n1_1 n1_2 n1_3 n1_4 n1_5 n1_6 n1_7 n1_8 n1_9 n1_10 n1_11 n1_12 n1_13 n1_14 o0 xr_23 xt_23 gn_23 gu_23 gb_23 ga_23 lc_23 lk_23 ln_23 lt_23 ll_23 lr_23 tw_23 tn_23 ts_23 tt_23 oo_23 _ (xs ((v23_4 + 1)).toNatClampNeg) hq216 hst) (va_cwS 3 hts gL_law_L_causeByTrying rfl rfl rfl (by decide +kernel) ⟨Nat.le_of_ble_eq_true rfl, Nat.le_of_ble_eq_true rfl⟩) ⟨PX.blind, fun U hU hW => ⟨rfl, hg U hU hW⟩⟩ rfl rfl hl.1 rfl (lv_room (Nat.le_of_ble_eq_true rfl)) dL_law_1406 ⟨(show kc + 2 ≤ 601024 from by omega), (show ks + 9 ≤ 7293034 from by omega)⟩) (fun r216 u H locs hw hP hD hS => ?_)
          obtain ⟨u216_0, rfl⟩ : ∃ z, z = u := ⟨_, rfl⟩
          rw [hw] at he
          try dsimp only at he
          replace hp := hp r216 u216_0 hw
          have hP : va_P D vwCl (W_L cI cJ q0 n1_0 n1_1 n1_2 n1_3 n1_4 n1_5 n1_6 n1_7 n1_8 n1_9 n1_10 n1_11 n1_12 n1_13 n1_14 q8 n2_0 n2_1 n2_2 n2_3 n2_4 n2_5 n2_6 n2_7 n2_8 n2_9 n2_10 o0 xr_23 xt_23 gn_23 gu_23 gb_23 ga_23 lc_23 lk_23 ln_23 lt_23 ll_23 lr_23 tw_23 tn_23 ts_23 tt_23 mr_23 mc_23 me_23 mw_23 mh_23 mn_23 mu_23 ms_23 mt_23 md_23 mz_23 mi_23 mk_23 mo_23 mj_23 ml_23 u216_0) H := hP
          have hD : va_D A (W_L cI cJ q0 n1_0 n1_1 n1_2 n1_3 n1_4 n1_5 n1_6 n1_7 n1_8 n1_9 n1_10 n1_11 n1_12 n1_13 n1_14 q8 n2_0 n2_1 n2_2 n2_3 n2_4 n2_5 n2_6 n2_7 n2_8 n2_9 n2_10 o0 xr_23 xt_23 gn_23 gu_23 gb_23 ga_23 lc_23 lk_23 ln_23 lt_23 ll_23 lr_23 tw_23 tn_23 ts_23 tt_23 mr_23 mc_23 me_23 mw_23 mh_23 mn_23 mu_23 ms_23 mt_23 md_23 mz_23 mi_23 mk_23 mo_23 mj_23 ml_23 u216_0) := hD
          refine lv_istore (lv' := [(5, .int r216), (4, .int v23_4), (3, .ref o0), (2, .ref q8), (1, .ref q0), (0, .ref b0)]) hx hb dL_law_1409 hl (by decide) rfl (fun ls hl => ?_)
          refine lv_aload_n hx hb dL_law_1411 rfl (lv_at hl 3 rfl) ?_
          refine lv_aload_n hx hb dL_law_1412 rfl (lv_at hl 5 rfl) ?_
          refine lv_iload hx hb dL_law_1413 (lv_at hl 1 rfl) ?_
          refine lv_iconst (v := 1) hx hb dL_law_1415 (by decide) ?_
          refine lv_iadd hx hb dL_law_1416 ?_
          have h217 := hp.1
          replace hp := hp.2
          refine va_sld hx hb hX hbl hbA hS h217 dL_law_1417 ?_
          have hq218 := hp.1
          replace hp := hp.2
          refine k_calli (S := Int32) (wc := (W_X5 cI q8 n2_0 n2_1 n2_2 n2_3 n2_4 n2_5 n2_6 n2_7 n2_8 n2_9 n2_10 mr_23 mc_23 me_23 mw_23 mh_23 mn_23 mu_23 ms_23 mt_23 md_23 mz_23 mi_23 mk_23 mo_23 mj_23 ml_23)) (wr := (W_O cI cJ q0 n1_0 n1_1 n1_2 n1_3 n1_4 n1_5 n1_6 n1_7 n1_8 n1_9 n1_10 n1_11 n1_12 n1_13 n1_14 o0 xr_23 xt_23 gn_23 gu_23 gb_23 ga_23 lc_23 lk_23 ln_23 lt_23 ll_23 lr_23 tw_23 tn_23 ts_23 tt_23 u216_0)) (w1 := fun u => (W_X5 cI q8 n2_0 n2_1 n2_2 n2_3 n2_4 n2_5 n2_6 n2_7 n2_8 n2_9 n2_10 mr_23 mc_23 me_23 mw_23 u mn_23 mu_23 ms_23 mt_23 md_23 mz_23 mi_23 mk_23 mo_23 mj_23 ml_23)) (fun u => (W_L cI cJ q0 n1_0 n1_1 n1_2 n1_3 n1_4 n1_5 n1_6 n1_7 n1_8 n1_9 n1_10 n1_11 n1_12 n1_13 n1_14 q8 n2_0 n2_1 n2_2 n2_3 n2_4 n2_5 n2_6 n2_7 n2_8 n2_9 n2_10 o0 xr_23 xt_23 gn_23 gu_23 gb_23 ga_23 lc_23 lk_23 ln_23 lt_23 ll_23 lr_23 tw_23 tn_23 ts_23 tt_23 mr_23 mc_23 me_23 mw_23 u mn_23 mu_23 ms_23 mt_23 md_23 mz_23 mi_23 mk_23 mo_23 mj_23 ml_23 u216_0)) hP hK hD hN hS hA [16, 17, 18, 19, 20, 21, 22, 23, 24, 25, 26, 27] [0, 1, 2, 3, 4, 5, 6, 7, 8, 9, 10, 11, 12, 13, 14, 15, 28] rfl rfl (by decide) (by decide) (by decide) [0, 1, 2, 3, 4, 5, 6, 7, 8, 9, 10, 11, 12, 13, 14, 15, 17, 18, 19, 20, 21, 22, 23, 24, 25, 26, 27, 28, 16] (by decide) (fun _ => rfl) (fun hg => va_runV (As := [.int (xs ((v23_4 + 1)).toNatClampNeg)]) (rest := []) ⟨hx, hb, hml, hown, hts⟩ (c_X5_causeByTrying l D cI q8 n2_0 n2_1 n2_2 n2_3 n2_4 n2_5 n2_6 n2_7 n2_8 n2_9 n2_10 mr_23 mc_23 me_23 mw_23 mh_23 mn_23 mu_23 ms_23 mt_23 md_23 mz_23 mi_23 mk_23 mo_23 mj_23 ml_23 _ (xs ((v23_4 + 1)).toNatClampNeg) hq218) (cwV 1 hts gL_law_X5_causeByTrying rfl rfl rfl (by decide +kernel) ⟨Nat.le_of_ble_eq_true rfl, Nat.le_of_ble_eq_true rfl⟩) ⟨PW.blind, va_recv hK hP (ci := 5) (q0 := 16) rfl rfl, fun U hU hW => ⟨rfl, hg U hU hW⟩⟩ rfl rfl hl.1 rfl (lv_room (Nat.le_of_ble_eq_true rfl)) dL_law_1418 ⟨(show (kc + 2) + 0 ≤ 601024 from by omega), (show (ks + 9) + 0 ≤ 7293034 from by omega)⟩) (fun r218 u H locs hw hP hD hS => ?_)
          obtain ⟨u218_0, rfl⟩ : ∃ z, z = u := ⟨_, rfl⟩
          rw [hw] at he
          try dsimp only at he
          replace hp := hp r218 u218_0 hw
          have hP : va_P D vwCl (W_L cI cJ q0 n1_0 n1_1 n1_2 n1_3 n1_4 n1_5 n1_6 n1_7 n1_8 n1_9 n1_10 n1_11 n1_12 n1_13 n1_14 q8 n2_0 n2_1 n2_2 n2_3 n2_4 n2_5 n2_6 n2_7 n2_8 n2_9 n2_10 o0 xr_23 xt_23 gn_23 gu_23 gb_23 ga_23 lc_23 lk_23 ln_23 lt_23 ll_23 lr_23 tw_23 tn_23 ts_23 tt_23 mr_23 mc_23 me_23 mw_23 u218_0 mn_23 mu_23 ms_23 mt_23 md_23 mz_23 mi_23 mk_23 mo_23 mj_23 ml_23 u216_0) H := hP
          have hD : va_D A (W_L cI cJ q0 n1_0 n1_1 n1_2 n1_3 n1_4 n1_5 n1_6 n1_7 n1_8 n1_9 n1_10 n1_11 n1_12 n1_13 n1_14 q8 n2_0 n2_1 n2_2 n2_3 n2_4 n2_5 n2_6 n2_7 n2_8 n2_9 n2_10 o0 xr_23 xt_23 gn_23 gu_23 gb_23 ga_23 lc_23 lk_23 ln_23 lt_23 ll_23 lr_23 tw_23 tn_23 ts_23 tt_23 mr_23 mc_23 me_23 mw_23 u218_0 mn_23 mu_23 ms_23 mt_23 md_23 mz_23 mi_23 mk_23 mo_23 mj_23 ml_23 u216_0) := hD
          refine lv_istore (lv' := [(6, .int r218), (5, .int r216), (4, .int v23_4), (3, .ref o0), (2, .ref q8), (1, .ref q0), (0, .ref b0)]) hx hb dL_law_1421 hl (by decide) rfl (fun ls hl => ?_)
          refine lv_aload_n hx hb dL_law_1423 rfl (lv_at hl 4 rfl) ?_
          refine k_calli (S := Unit) (wc := (W_X5 cI q8 n2_0 n2_1 n2_2 n2_3 n2_4 n2_5 n2_6 n2_7 n2_8 n2_9 n2_10 mr_23 mc_23 me_23 mw_23 u218_0 mn_23 mu_23 ms_23 mt_23 md_23 mz_23 mi_23 mk_23 mo_23 mj_23 ml_23)) (wr := (W_O cI cJ q0 n1_0 n1_1 n1_2 n1_3 n1_4 n1_5 n1_6 n1_7 n1_8 n1_9 n1_10 n1_11 n1_12 n1_13 n1_14 o0 xr_23 xt_23 gn_23 gu_23 gb_23 ga_23 lc_23 lk_23 ln_23 lt_23 ll_23 lr_23 tw_23 tn_23 ts_23 tt_23 u216_0)) (w1 := fun u => (W_X5 cI q8 n2_0 n2_1 n2_2 n2_3 n2_4 n2_5 n2_6 n2_7 n2_8 n2_9 n2_10 mr_23 mc_23 me_23 mw_23 u218_0 mn_23 mu_23 ms_23 mt_23 md_23 mz_23 mi_23 mk_23 mo_23 mj_23 ml_23)) (fun u => (W_L cI cJ q0 n1_0 n1_1 n1_2 n1_3 n1_4 n1_5 n1_6 n1_7 n1_8 n1_9 n1_10 n1_11 n1_12 n1_13 n1_14 q8 n2_0 n2_1 n2_2 n2_3 n2_4 n2_5 n2_6 n2_7 n2_8 n2_9 n2_10 o0 xr_23 xt_23 gn_23 gu_23 gb_23 ga_23 lc_23 lk_23 ln_23 lt_23 ll_23 lr_23 tw_23 tn_23 ts_23 tt_23 mr_23 mc_23 me_23 mw_23 u218_0 mn_23 mu_23 ms_23 mt_23 md_23 mz_23 mi_23 mk_23 mo_23 mj_23 ml_23 u216_0)) hP hK hD hN hS hA [16, 17, 18, 19, 20, 21, 22, 23, 24, 25, 26, 27] [0, 1, 2, 3, 4, 5, 6, 7, 8, 9, 10, 11, 12, 13, 14, 15, 28] rfl rfl (by decide) (by decide) (by decide) [0, 1, 2, 3, 4, 5, 6, 7, 8, 9, 10, 11, 12, 13, 14, 15, 17, 18, 19, 20, 21, 22, 23, 24, 25, 26, 27, 28, 16] (by decide) (fun _ => rfl) (fun hg => va_runV (As := []) (rest := []) ⟨hx, hb, hml, hown, hts⟩ (c_X5_thrown l D cI q8 n2_0 n2_1 n2_2 n2_3 n2_4 n2_5 n2_6 n2_7 n2_8 n2_9 n2_10 mr_23 mc_23 me_23 mw_23 u218_0 mn_23 mu_23 ms_23 mt_23 md_23 mz_23 mi_23 mk_23 mo_23 mj_23 ml_23 _ ) (cwV 0 hts gL_law_X5_thrown rfl rfl rfl (by decide +kernel) ⟨Nat.le_of_ble_eq_true rfl, Nat.le_of_ble_eq_true rfl⟩) ⟨PW.blind, va_recv hK hP (ci := 5) (q0 := 16) rfl rfl, fun U hU hW => ⟨rfl, hg U hU hW⟩⟩ rfl rfl hl.1 rfl (lv_room (Nat.le_of_ble_eq_true rfl)) dL_law_1424 ⟨(show (kc + 2) + 0 ≤ 601024 from by omega), (show (ks + 9) + 0 ≤ 7293034 from by omega)⟩) (fun r219 u H locs hw hP hD hS => ?_)
          subst hw
          refine lv_iload hx hb dL_law_1427 (lv_at hl 1 rfl) ?_
          refine lv_icmp_eq (tgt := 1434) hx hb dL_law_1429 (by decide) (fun c220 => ?_) (fun c220 => ?_)
          · replace hp := hp.1 c220
            replace he := he.trans (if_pos c220)
            refine lv_iload hx hb dL_law_1434 (lv_at hl 1 rfl) ?_
            refine lv_if_ne (tgt := 1451) hx hb dL_law_1436 (by decide) (fun c221 => ?_) (fun c221 => ?_)
            · replace hp := hp.2 c221
              replace he := he.trans (if_neg c221)
              refine lv_goto (tgt := 1579) hx hb dL_law_1451 (by decide) ?_
              refine lv_iinc (v := (v23_4 + 3)) (lv' := [(4, .int (v23_4 + 3)), (6, .int r218), (5, .int r216), (3, .ref o0), (2, .ref q8), (1, .ref q0), (0, .ref b0)]) hx hb dL_law_1579 hl (k := 2) rfl rfl (by decide) rfl (fun ls hl => ?_)
              refine lv_goto (tgt := 23) hx hb dL_law_1582 (by decide) ?_
              refine W.widen (k := kc + 2) (n := ks + 9) (by omega) (by omega) ?_
              exact ih _ _ _ _ _ _ _ _ _ _ _ _ _ _ _ _ _ _ _ _ _ _ _ _ _ _ _ _ _ _ _ _ _ _ (kc + 2) (ks + 9) (by omega) (by omega) hp he _ _ hP hD hS _ (lv_sub hl [0, 3, 4, 5, 6] rfl)
            · replace hp := hp.1 c221
              replace he := he.trans (if_pos c221)
              refine lv_aload_n hx hb dL_law_1439 rfl (lv_at hl 3 rfl) ?_
              refine lv_iconst (v := 0) hx hb dL_law_1440 (by decide) ?_
              refine va_lald hx hb hK hP 28 1 rfl rfl (by decide) dL_law_1441 ?_
              refine lv_iload hx hb dL_law_1442 (lv_at hl 0 rfl) ?_
              refine lv_i2l (v := (r218).toInt64) hx hb dL_law_1444 rfl ?_
              refine W.lcmp hx hb dL_law_1445 ?_
              refine lv_if_eq (tgt := 1451) hx hb dL_law_1446 (by decide) (fun c223 => ?_) (fun c223 => ?_)
              · replace hp := hp.1 c223
                replace he := he.trans (if_pos c223)
                refine lv_goto (tgt := 1579) hx hb dL_law_1451 (by decide) ?_
                refine lv_iinc (v := (v23_4 + 3)) (lv' := [(4, .int (v23_4 + 3)), (6, .int r218), (5, .int r216), (3, .ref o0), (2, .ref q8), (1, .ref q0), (0, .ref b0)]) hx hb dL_law_1579 hl (k := 2) rfl rfl (by decide) rfl (fun ls hl => ?_)
                refine lv_goto (tgt := 23) hx hb dL_law_1582 (by decide) ?_
                refine W.widen (k := kc + 2) (n := ks + 9) (by omega) (by omega) ?_
                exact ih _ _ _ _ _ _ _ _ _ _ _ _ _ _ _ _ _ _ _ _ _ _ _ _ _ _ _ _ _ _ _ _ _ _ (kc + 2) (ks + 9) (by omega) (by omega) hp he _ _ hP hD hS _ (lv_sub hl [0, 3, 4, 5, 6] rfl)
              · replace hp := hp.2 c223
                replace he := he.trans (if_neg c223)
                refine lv_iconst (v := 0) hx hb dL_law_1449 (by decide) ?_
                exact absurd he (by decide)
          · replace hp := hp.2 c220
            replace he := he.trans (if_neg c220)
            refine lv_iconst (v := 0) hx hb dL_law_1432 (by decide) ?_
            exact absurd he (by decide)
        replace he := he.trans (if_neg s25)
        replace hp := hp.2 s25
        rcases Decidable.em (((xs (v23_4).toNatClampNeg) &&& 31) = 26) with s26 | s26
        · replace he := he.trans (if_pos s26)
          replace hp := hp.1 s26
          refine lv_tableIn (off := 1415) (tgt := 1454) hx hb dL_law_39 (by rw [s26]; decide) (by rw [s26]; decide) (by rw [s26]; rfl) (by decide) ?_
          refine lv_aload_n hx hb dL_law_1454 rfl (lv_at hl 3 rfl) ?_
          have hq224 := hp.1
          replace hp := hp.2
          refine k_calli (S := Unit) (wc := (W_X4 cI q0 n1_0 n1_1 n1_2 n1_3 n1_4 n1_5 n1_6 n1_7 n1_8 n1_9 n1_10 n1_11 n1_12 n1_13 n1_14 xr_23 xt_23 gn_23 gu_23 gb_23 ga_23 lc_23 lk_23 ln_23 lt_23 ll_23 lr_23 tw_23 tn_23 ts_23 tt_23)) (wr := ((W_X5 cI q8 n2_0 n2_1 n2_2 n2_3 n2_4 n2_5 n2_6 n2_7 n2_8 n2_9 n2_10 mr_23 mc_23 me_23 mw_23 mh_23 mn_23 mu_23 ms_23 mt_23 md_23 mz_23 mi_23 mk_23 mo_23 mj_23 ml_23) ++ [(o0, .inl (cJ, 1, .inr (.inl oo_23)))])) (w1 := fun u => (W_X4 cI q0 n1_0 n1_1 n1_2 n1_3 n1_4 n1_5 n1_6 n1_7 n1_8 n1_9 n1_10 n1_11 n1_12 n1_13 n1_14 xr_23 xt_23 gn_23 gu_23 gb_23 ga_23 lc_23 lk_23 ln_23 lt_23 ll_23 lr_23 tw_23 tn_23 ts_23 tt_23)) (fun u => (W_L cI cJ q0 n1_0 n1_1 n1_2 n1_3 n1_4 n1_5 n1_6 n1_7 n1_8 n1_9 n1_10 n1_11 n1_12 n1_13 n1_14 q8 n2_0 n2_1 n2_2 n2_3 n2_4 n2_5 n2_6 n2_7 n2_8 n2_9 n2_10 o0 xr_23 xt_23 gn_23 gu_23 gb_23 ga_23 lc_23 lk_23 ln_23 lt_23 ll_23 lr_23 tw_23 tn_23 ts_23 tt_23 mr_23 mc_23 me_23 mw_23 mh_23 mn_23 mu_23 ms_23 mt_23 md_23 mz_23 mi_23 mk_23 mo_23 mj_23 ml_23 oo_23)) hP hK hD hN hS hA [0, 1, 2, 3, 4, 5, 6, 7, 8, 9, 10, 11, 12, 13, 14, 15] [16, 17, 18, 19, 20, 21, 22, 23, 24, 25, 26, 27, 28] rfl rfl (by decide) (by decide) (by decide) [13, 14, 15, 16, 17, 18, 19, 20, 21, 22, 23, 24, 25, 26, 27, 28, 0, 1, 2, 3, 4, 5, 6, 7, 8, 9, 10, 11, 12] (by decide) (fun _ => rfl) (fun hg => va_runV (As := []) (rest := []) ⟨hx, hb, hml, hown, hts⟩ (c_X4_greedyCauses l D cI q0 n1_0 n1_1 n1_2 n1_3 n1_4 n1_5 n1_6 n1_7 n1_8 n1_9 n1_10 n1_11 n1_12 n1_13 n1_14 xr_23 xt_23 gn_23 gu_23 gb_23 ga_23 lc_23 lk_23 ln_23 lt_23 ll_23 lr_23 tw_23 tn_23 ts_23 tt_23 _ hq224) (cwV 0 hts gL_law_X4_greedyCauses rfl rfl rfl (by decide +kernel) ⟨Nat.le_of_ble_eq_true rfl, Nat.le_of_ble_eq_true rfl⟩) ⟨PW.blind, va_recv hK hP (ci := 4) (q0 := 0) rfl rfl, fun U hU hW => ⟨rfl, hg U hU hW⟩⟩ rfl rfl hl.1 rfl (lv_room (Nat.le_of_ble_eq_true rfl)) dL_law_1455 ⟨(show kc + 1 ≤ 601024 from by omega), (show ks + 3 ≤ 7293034 from by omega)⟩) (fun r224 u H locs hw hP hD hS => ?_)
          subst hw
          refine lv_aload_n hx hb dL_law_1458 rfl (lv_at hl 2 rfl) ?_
          have hq225 := hp.1
          replace hp := hp.2
          refine k_calli (S := Int32) (wc := (W_X5 cI q8 n2_0 n2_1 n2_2 n2_3 n2_4 n2_5 n2_6 n2_7 n2_8 n2_9 n2_10 mr_23 mc_23 me_23 mw_23 mh_23 mn_23 mu_23 ms_23 mt_23 md_23 mz_23 mi_23 mk_23 mo_23 mj_23 ml_23)) (wr := (W_O cI cJ q0 n1_0 n1_1 n1_2 n1_3 n1_4 n1_5 n1_6 n1_7 n1_8 n1_9 n1_10 n1_11 n1_12 n1_13 n1_14 o0 xr_23 xt_23 gn_23 gu_23 gb_23 ga_23 lc_23 lk_23 ln_23 lt_23 ll_23 lr_23 tw_23 tn_23 ts_23 tt_23 oo_23)) (w1 := fun u => (W_X5 cI q8 n2_0 n2_1 n2_2 n2_3 n2_4 n2_5 n2_6 n2_7 n2_8 n2_9 n2_10 mr_23 mc_23 me_23 mw_23 u mn_23 mu_23 ms_23 mt_23 md_23 mz_23 mi_23 mk_23 mo_23 mj_23 ml_23)) (fun u => (W_L cI cJ q0 n1_0 n1_1 n1_2 n1_3 n1_4 n1_5 n1_6 n1_7 n1_8 n1_9 n1_10 n1_11 n1_12 n1_13 n1_14 q8 n2_0 n2_1 n2_2 n2_3 n2_4 n2_5 n2_6 n2_7 n2_8 n2_9 n2_10 o0 xr_23 xt_23 gn_23 gu_23 gb_23 ga_23 lc_23 lk_23 ln_23 lt_23 ll_23 lr_23 tw_23 tn_23 ts_23 tt_23 mr_23 mc_23 me_23 mw_23 u mn_23 mu_23 ms_23 mt_23 md_23 mz_23 mi_23 mk_23 mo_23 mj_23 ml_23 oo_23)) hP hK hD hN hS hA [16, 17, 18, 19, 20, 21, 22, 23, 24, 25, 26, 27] [0, 1, 2, 3, 4, 5, 6, 7, 8, 9, 10, 11, 12, 13, 14, 15, 28] rfl rfl (by decide) (by decide) (by decide) [0, 1, 2, 3, 4, 5, 6, 7, 8, 9, 10, 11, 12, 13, 14, 15, 17, 18, 19, 20, 21, 22, 23, 24, 25, 26, 27, 28, 16] (by decide) (fun _ => rfl) (fun hg => va_runV (As := []) (rest := [.int (f_X4_greedyCauses xr_23 gu_23 ga_23)]) ⟨hx, hb, hml, hown, hts⟩ (c_X5_greedyCauses l D cI q8 n2_0 n2_1 n2_2 n2_3 n2_4 n2_5 n2_6 n2_7 n2_8 n2_9 n2_10 mr_23 mc_23 me_23 mw_23 mh_23 mn_23 mu_23 ms_23 mt_23 md_23 mz_23 mi_23 mk_23 mo_23 mj_23 ml_23 _ hq225) (cwV 0 hts gL_law_X5_greedyCauses rfl rfl rfl (by decide +kernel) ⟨Nat.le_of_ble_eq_true rfl, Nat.le_of_ble_eq_true rfl⟩) ⟨PW.blind, va_recv hK hP (ci := 5) (q0 := 16) rfl rfl, fun U hU hW => ⟨rfl, hg U hU hW⟩⟩ rfl rfl hl.1 rfl (lv_room (Nat.le_of_ble_eq_true rfl)) dL_law_1459 ⟨(show (kc + 1) + 0 ≤ 601024 from by omega), (show (ks + 3) + 0 ≤ 7293034 from by omega)⟩) (fun r225 u H locs hw hP hD hS => ?_)
          obtain ⟨u225_0, rfl⟩ : ∃ z, z = u := ⟨_, rfl⟩
          rw [hw] at he
          try dsimp only at he
          replace hp := hp r225 u225_0 hw
          have hP : va_P D vwCl (W_L cI cJ q0 n1_0 n1_1 n1_2 n1_3 n1_4 n1_5 n1_6 n1_7 n1_8 n1_9 n1_10 n1_11 n1_12 n1_13 n1_14 q8 n2_0 n2_1 n2_2 n2_3 n2_4 n2_5 n2_6 n2_7 n2_8 n2_9 n2_10 o0 xr_23 xt_23 gn_23 gu_23 gb_23 ga_23 lc_23 lk_23 ln_23 lt_23 ll_23 lr_23 tw_23 tn_23 ts_23 tt_23 mr_23 mc_23 me_23 mw_23 u225_0 mn_23 mu_23 ms_23 mt_23 md_23 mz_23 mi_23 mk_23 mo_23 mj_23 ml_23 oo_23) H := hP
          have hD : va_D A (W_L cI cJ q0 n1_0 n1_1 n1_2 n1_3 n1_4 n1_5 n1_6 n1_7 n1_8 n1_9 n1_10 n1_11 n1_12 n1_13 n1_14 q8 n2_0 n2_1 n2_2 n2_3 n2_4 n2_5 n2_6 n2_7 n2_8 n2_9 n2_10 o0 xr_23 xt_23 gn_23 gu_23 gb_23 ga_23 lc_23 lk_23 ln_23 lt_23 ll_23 lr_23 tw_23 tn_23 ts_23 tt_23 mr_23 mc_23 me_23 mw_23 u225_0 mn_23 mu_23 ms_23 mt_23 md_23 mz_23 mi_23 mk_23 mo_23 mj_23 ml_23 oo_23) := hD
          refine lv_icmp_eq (tgt := 1579) hx hb dL_law_1462 (by decide) (fun c226 => ?_) (fun c226 => ?_)
          · replace hp := hp.1 c226
            replace he := he.trans (if_pos c226)
            refine lv_iinc (v := (v23_4 + 3)) (lv' := [(4, .int (v23_4 + 3)), (3, .ref o0), (2, .ref q8), (1, .ref q0), (0, .ref b0)]) hx hb dL_law_1579 hl (k := 0) rfl rfl (by decide) rfl (fun ls hl => ?_)
            refine lv_goto (tgt := 23) hx hb dL_law_1582 (by decide) ?_
            refine W.widen (k := kc + 2) (n := ks + 9) (by omega) (by omega) ?_
            exact ih _ _ _ _ _ _ _ _ _ _ _ _ _ _ _ _ _ _ _ _ _ _ _ _ _ _ _ _ _ _ _ _ _ _ (kc + 2) (ks + 9) (by omega) (by omega) hp he _ _ hP hD hS _ (lv_sub hl [0, 1, 2, 3, 4] rfl)
          · replace hp := hp.2 c226
            replace he := he.trans (if_neg c226)
            refine lv_iconst (v := 0) hx hb dL_law_1465 (by decide) ?_
            exact absurd he (by decide)
        replace he := he.trans (if_neg s26)
        replace hp := hp.2 s26
        rcases Decidable.em (((xs (v23_4).toNatClampNeg) &&& 31) = 27) with s27 | s27
        · replace he := he.trans (if_pos s27)
          replace hp := hp.1 s27
          refine lv_tableIn (off := 1428) (tgt := 1467) hx hb dL_law_39 (by rw [s27]; decide) (by rw [s27]; decide) (by rw [s27]; rfl) (by decide) ?_
          refine lv_aload_n hx hb dL_law_1467 rfl (lv_at hl 3 rfl) ?_
          refine lv_aload_n hx hb dL_law_1468 rfl (lv_at hl 4 rfl) ?_
          refine lv_iload hx hb dL_law_1469 (lv_at hl 0 rfl) ?_
          refine lv_iconst (v := 1) hx hb dL_law_1471 (by decide) ?_
          refine lv_iadd hx hb dL_law_1472 ?_
          have h227 := hp.1
          replace hp := hp.2
          refine va_sld hx hb hX hbl hbA hS h227 dL_law_1473 ?_
          refine lv_aload_n hx hb dL_law_1474 rfl (lv_at hl 1 rfl) ?_
          have hq228 := hp.1
          replace hp := hp.2
          refine k_ycalli (S := LA) (wc := (W_O cI cJ q0 n1_0 n1_1 n1_2 n1_3 n1_4 n1_5 n1_6 n1_7 n1_8 n1_9 n1_10 n1_11 n1_12 n1_13 n1_14 o0 xr_23 xt_23 gn_23 gu_23 gb_23 ga_23 lc_23 lk_23 ln_23 lt_23 ll_23 lr_23 tw_23 tn_23 ts_23 tt_23 oo_23)) (wr := (W_X5 cI q8 n2_0 n2_1 n2_2 n2_3 n2_4 n2_5 n2_6 n2_7 n2_8 n2_9 n2_10 mr_23 mc_23 me_23 mw_23 mh_23 mn_23 mu_23 ms_23 mt_23 md_23 mz_23 mi_23 mk_23 mo_23 mj_23 ml_23)) (w1 := fun u => (W_O cI cJ q0 n1_0 n1_1 n1_2 n1_3 n1_4 n1_5 n1_6 n1_7 n1_8 n1_9 n1_10 n1_11 n1_12 n1_13 n1_14 o0 xr_23 xt_23 gn_23 gu_23 gb_23 ga_23 lc_23 lk_23 ln_23 lt_23 ll_23 lr_23 tw_23 tn_23 ts_23 tt_23 u)) (fun u => (W_L cI cJ q0 n1_0 n1_1 n1_2 n1_3 n1_4 n1_5 n1_6 n1_7 n1_8 n1_9 n1_10 n1_11 n1_12 n1_13 n1_14 q8 n2_0 n2_1 n2_2 n2_3 n2_4 n2_5 n2_6 n2_7 n2_8 n2_9 n2_10 o0 xr_23 xt_23 gn_23 gu_23 gb_23 ga_23 lc_23 lk_23 ln_23 lt_23 ll_23 lr_23 tw_23 tn_23 ts_23 tt_23 mr_23 mc_23 me_23 mw_23 mh_23 mn_23 mu_23 ms_23 mt_23 md_23 mz_23 mi_23 mk_23 mo_23 mj_23 ml_23 u)) hP hK hD hN hXB hS hA [0, 1, 2, 3, 4, 5, 6, 7, 8, 9, 10, 11, 12, 13, 14, 15, 28] [16, 17, 18, 19, 20, 21, 22, 23, 24, 25, 26, 27] rfl rfl (by decide) (by decide) (by decide) [12, 13, 14, 15, 16, 17, 18, 19, 20, 21, 22, 23, 24, 25, 26, 27, 0, 1, 2, 3, 4, 5, 6, 7, 8, 9, 10, 11, 28] (by decide) (fun _ => rfl) (fun hg => va_runS (As := [.ref q0, .int (xs ((v23_4 + 1)).toNatClampNeg), .ref o0]) (rest := []) ⟨hx, hb, hml, hown, hts⟩ (c_L_greedyCause l D cI cJ q0 n1_0 n1_1 n1_2 n1_3 n1_4 n1_5 n1_6 n1_7 n1_8 n1_9 n1_10 n1_11 n1_12 n1_13 n1_14 o0 xr_23 xt_23 gn_23 gu_23 gb_23 ga_23 lc_23 lk_23 ln_23 lt_23 ll_23 lr_23 tw_23 tn_23 ts_23 tt_23 oo_23 _ (xs ((v23_4 + 1)).toNatClampNeg) hq228 hst) (va_cwS 3 hts gL_law_L_greedyCause rfl rfl rfl (by decide +kernel) ⟨Nat.le_of_ble_eq_true rfl, Nat.le_of_ble_eq_true rfl⟩) ⟨PX.blind, fun U hU hW => ⟨rfl, hg U hU hW⟩⟩ rfl rfl hl.1 rfl (lv_room (Nat.le_of_ble_eq_true rfl)) dL_law_1475 ⟨(show kc + 2 ≤ 601024 from by omega), (show ks + 9 ≤ 7293034 from by omega)⟩) (fun r228 u H locs hw hP hD hS => ?_)
          obtain ⟨u228_0, rfl⟩ : ∃ z, z = u := ⟨_, rfl⟩
          rw [hw] at he
          try dsimp only at he
          replace hp := hp r228 u228_0 hw
          have hP : va_P D vwCl (W_L cI cJ q0 n1_0 n1_1 n1_2 n1_3 n1_4 n1_5 n1_6 n1_7 n1_8 n1_9 n1_10 n1_11 n1_12 n1_13 n1_14 q8 n2_0 n2_1 n2_2 n2_3 n2_4 n2_5 n2_6 n2_7 n2_8 n2_9 n2_10 o0 xr_23 xt_23 gn_23 gu_23 gb_23 ga_23 lc_23 lk_23 ln_23 lt_23 ll_23 lr_23 tw_23 tn_23 ts_23 tt_23 mr_23 mc_23 me_23 mw_23 mh_23 mn_23 mu_23 ms_23 mt_23 md_23 mz_23 mi_23 mk_23 mo_23 mj_23 ml_23 u228_0) H := hP
          have hD : va_D A (W_L cI cJ q0 n1_0 n1_1 n1_2 n1_3 n1_4 n1_5 n1_6 n1_7 n1_8 n1_9 n1_10 n1_11 n1_12 n1_13 n1_14 q8 n2_0 n2_1 n2_2 n2_3 n2_4 n2_5 n2_6 n2_7 n2_8 n2_9 n2_10 o0 xr_23 xt_23 gn_23 gu_23 gb_23 ga_23 lc_23 lk_23 ln_23 lt_23 ll_23 lr_23 tw_23 tn_23 ts_23 tt_23 mr_23 mc_23 me_23 mw_23 mh_23 mn_23 mu_23 ms_23 mt_23 md_23 mz_23 mi_23 mk_23 mo_23 mj_23 ml_23 u228_0) := hD
          refine lv_istore (lv' := [(5, .int r228), (4, .int v23_4), (3, .ref o0), (2, .ref q8), (1, .ref q0), (0, .ref b0)]) hx hb dL_law_1478 hl (by decide) rfl (fun ls hl => ?_)
          refine lv_aload_n hx hb dL_law_1480 rfl (lv_at hl 3 rfl) ?_
          refine lv_aload_n hx hb dL_law_1481 rfl (lv_at hl 5 rfl) ?_
          refine lv_iload hx hb dL_law_1482 (lv_at hl 1 rfl) ?_
          refine lv_iconst (v := 1) hx hb dL_law_1484 (by decide) ?_
          refine lv_iadd hx hb dL_law_1485 ?_
          have h229 := hp.1
          replace hp := hp.2
          refine va_sld hx hb hX hbl hbA hS h229 dL_law_1486 ?_
          have hq230 := hp.1
          replace hp := hp.2
          refine k_calli (S := Int32) (wc := (W_X5 cI q8 n2_0 n2_1 n2_2 n2_3 n2_4 n2_5 n2_6 n2_7 n2_8 n2_9 n2_10 mr_23 mc_23 me_23 mw_23 mh_23 mn_23 mu_23 ms_23 mt_23 md_23 mz_23 mi_23 mk_23 mo_23 mj_23 ml_23)) (wr := (W_O cI cJ q0 n1_0 n1_1 n1_2 n1_3 n1_4 n1_5 n1_6 n1_7 n1_8 n1_9 n1_10 n1_11 n1_12 n1_13 n1_14 o0 xr_23 xt_23 gn_23 gu_23 gb_23 ga_23 lc_23 lk_23 ln_23 lt_23 ll_23 lr_23 tw_23 tn_23 ts_23 tt_23 u228_0)) (w1 := fun u => (W_X5 cI q8 n2_0 n2_1 n2_2 n2_3 n2_4 n2_5 n2_6 n2_7 n2_8 n2_9 n2_10 mr_23 mc_23 me_23 mw_23 u mn_23 mu_23 ms_23 mt_23 md_23 mz_23 mi_23 mk_23 mo_23 mj_23 ml_23)) (fun u => (W_L cI cJ q0 n1_0 n1_1 n1_2 n1_3 n1_4 n1_5 n1_6 n1_7 n1_8 n1_9 n1_10 n1_11 n1_12 n1_13 n1_14 q8 n2_0 n2_1 n2_2 n2_3 n2_4 n2_5 n2_6 n2_7 n2_8 n2_9 n2_10 o0 xr_23 xt_23 gn_23 gu_23 gb_23 ga_23 lc_23 lk_23 ln_23 lt_23 ll_23 lr_23 tw_23 tn_23 ts_23 tt_23 mr_23 mc_23 me_23 mw_23 u mn_23 mu_23 ms_23 mt_23 md_23 mz_23 mi_23 mk_23 mo_23 mj_23 ml_23 u228_0)) hP hK hD hN hS hA [16, 17, 18, 19, 20, 21, 22, 23, 24, 25, 26, 27] [0, 1, 2, 3, 4, 5, 6, 7, 8, 9, 10, 11, 12, 13, 14, 15, 28] rfl rfl (by decide) (by decide) (by decide) [0, 1, 2, 3, 4, 5, 6, 7, 8, 9, 10, 11, 12, 13, 14, 15, 17, 18, 19, 20, 21, 22, 23, 24, 25, 26, 27, 28, 16] (by decide) (fun _ => rfl) (fun hg => va_runV (As := [.int (xs ((v23_4 + 1)).toNatClampNeg)]) (rest := []) ⟨hx, hb, hml, hown, hts⟩ (c_X5_greedyCause l D cI q8 n2_0 n2_1 n2_2 n2_3 n2_4 n2_5 n2_6 n2_7 n2_8 n2_9 n2_10 mr_23 mc_23 me_23 mw_23 mh_23 mn_23 mu_23 ms_23 mt_23 md_23 mz_23 mi_23 mk_23 mo_23 mj_23 ml_23 _ (xs ((v23_4 + 1)).toNatClampNeg) hq230) (cwV 1 hts gL_law_X5_greedyCause rfl rfl rfl (by decide +kernel) ⟨Nat.le_of_ble_eq_true rfl, Nat.le_of_ble_eq_true rfl⟩) ⟨PW.blind, va_recv hK hP (ci := 5) (q0 := 16) rfl rfl, fun U hU hW => ⟨rfl, hg U hU hW⟩⟩ rfl rfl hl.1 rfl (lv_room (Nat.le_of_ble_eq_true rfl)) dL_law_1487 ⟨(show (kc + 2) + 0 ≤ 601024 from by omega), (show (ks + 9) + 0 ≤ 7293034 from by omega)⟩) (fun r230 u H locs hw hP hD hS => ?_)
          obtain ⟨u230_0, rfl⟩ : ∃ z, z = u := ⟨_, rfl⟩
          rw [hw] at he
          try dsimp only at he
          replace hp := hp r230 u230_0 hw
          have hP : va_P D vwCl (W_L cI cJ q0 n1_0 n1_1 n1_2 n1_3 n1_4 n1_5 n1_6 n1_7 n1_8 n1_9 n1_10 n1_11 n1_12 n1_13 n1_14 q8 n2_0 n2_1 n2_2 n2_3 n2_4 n2_5 n2_6 n2_7 n2_8 n2_9 n2_10 o0 xr_23 xt_23 gn_23 gu_23 gb_23 ga_23 lc_23 lk_23 ln_23 lt_23 ll_23 lr_23 tw_23 tn_23 ts_23 tt_23 mr_23 mc_23 me_23 mw_23 u230_0 mn_23 mu_23 ms_23 mt_23 md_23 mz_23 mi_23 mk_23 mo_23 mj_23 ml_23 u228_0) H := hP
          have hD : va_D A (W_L cI cJ q0 n1_0 n1_1 n1_2 n1_3 n1_4 n1_5 n1_6 n1_7 n1_8 n1_9 n1_10 n1_11 n1_12 n1_13 n1_14 q8 n2_0 n2_1 n2_2 n2_3 n2_4 n2_5 n2_6 n2_7 n2_8 n2_9 n2_10 o0 xr_23 xt_23 gn_23 gu_23 gb_23 ga_23 lc_23 lk_23 ln_23 lt_23 ll_23 lr_23 tw_23 tn_23 ts_23 tt_23 mr_23 mc_23 me_23 mw_23 u230_0 mn_23 mu_23 ms_23 mt_23 md_23 mz_23 mi_23 mk_23 mo_23 mj_23 ml_23 u228_0) := hD
          refine lv_istore (lv' := [(6, .int r230), (5, .int r228), (4, .int v23_4), (3, .ref o0), (2, .ref q8), (1, .ref q0), (0, .ref b0)]) hx hb dL_law_1490 hl (by decide) rfl (fun ls hl => ?_)
          refine lv_aload_n hx hb dL_law_1492 rfl (lv_at hl 4 rfl) ?_
          refine k_calli (S := Unit) (wc := (W_X5 cI q8 n2_0 n2_1 n2_2 n2_3 n2_4 n2_5 n2_6 n2_7 n2_8 n2_9 n2_10 mr_23 mc_23 me_23 mw_23 u230_0 mn_23 mu_23 ms_23 mt_23 md_23 mz_23 mi_23 mk_23 mo_23 mj_23 ml_23)) (wr := (W_O cI cJ q0 n1_0 n1_1 n1_2 n1_3 n1_4 n1_5 n1_6 n1_7 n1_8 n1_9 n1_10 n1_11 n1_12 n1_13 n1_14 o0 xr_23 xt_23 gn_23 gu_23 gb_23 ga_23 lc_23 lk_23 ln_23 lt_23 ll_23 lr_23 tw_23 tn_23 ts_23 tt_23 u228_0)) (w1 := fun u => (W_X5 cI q8 n2_0 n2_1 n2_2 n2_3 n2_4 n2_5 n2_6 n2_7 n2_8 n2_9 n2_10 mr_23 mc_23 me_23 mw_23 u230_0 mn_23 mu_23 ms_23 mt_23 md_23 mz_23 mi_23 mk_23 mo_23 mj_23 ml_23)) (fun u => (W_L cI cJ q0 n1_0 n1_1 n1_2 n1_3 n1_4 n1_5 n1_6 n1_7 n1_8 n1_9 n1_10 n1_11 n1_12 n1_13 n1_14 q8 n2_0 n2_1 n2_2 n2_3 n2_4 n2_5 n2_6 n2_7 n2_8 n2_9 n2_10 o0 xr_23 xt_23 gn_23 gu_23 gb_23 ga_23 lc_23 lk_23 ln_23 lt_23 ll_23 lr_23 tw_23 tn_23 ts_23 tt_23 mr_23 mc_23 me_23 mw_23 u230_0 mn_23 mu_23 ms_23 mt_23 md_23 mz_23 mi_23 mk_23 mo_23 mj_23 ml_23 u228_0)) hP hK hD hN hS hA [16, 17, 18, 19, 20, 21, 22, 23, 24, 25, 26, 27] [0, 1, 2, 3, 4, 5, 6, 7, 8, 9, 10, 11, 12, 13, 14, 15, 28] rfl rfl (by decide) (by decide) (by decide) [0, 1, 2, 3, 4, 5, 6, 7, 8, 9, 10, 11, 12, 13, 14, 15, 17, 18, 19, 20, 21, 22, 23, 24, 25, 26, 27, 28, 16] (by decide) (fun _ => rfl) (fun hg => va_runV (As := []) (rest := []) ⟨hx, hb, hml, hown, hts⟩ (c_X5_thrown l D cI q8 n2_0 n2_1 n2_2 n2_3 n2_4 n2_5 n2_6 n2_7 n2_8 n2_9 n2_10 mr_23 mc_23 me_23 mw_23 u230_0 mn_23 mu_23 ms_23 mt_23 md_23 mz_23 mi_23 mk_23 mo_23 mj_23 ml_23 _ ) (cwV 0 hts gL_law_X5_thrown rfl rfl rfl (by decide +kernel) ⟨Nat.le_of_ble_eq_true rfl, Nat.le_of_ble_eq_true rfl⟩) ⟨PW.blind, va_recv hK hP (ci := 5) (q0 := 16) rfl rfl, fun U hU hW => ⟨rfl, hg U hU hW⟩⟩ rfl rfl hl.1 rfl (lv_room (Nat.le_of_ble_eq_true rfl)) dL_law_1493 ⟨(show (kc + 2) + 0 ≤ 601024 from by omega), (show (ks + 9) + 0 ≤ 7293034 from by omega)⟩) (fun r231 u H locs hw hP hD hS => ?_)
          subst hw
          refine lv_iload hx hb dL_law_1496 (lv_at hl 1 rfl) ?_
          refine lv_icmp_eq (tgt := 1503) hx hb dL_law_1498 (by decide) (fun c232 => ?_) (fun c232 => ?_)
          · replace hp := hp.1 c232
            replace he := he.trans (if_pos c232)
            refine lv_iload hx hb dL_law_1503 (lv_at hl 1 rfl) ?_
            refine lv_if_ne (tgt := 1520) hx hb dL_law_1505 (by decide) (fun c233 => ?_) (fun c233 => ?_)
            · replace hp := hp.2 c233
              replace he := he.trans (if_neg c233)
              refine lv_goto (tgt := 1579) hx hb dL_law_1520 (by decide) ?_
              refine lv_iinc (v := (v23_4 + 3)) (lv' := [(4, .int (v23_4 + 3)), (6, .int r230), (5, .int r228), (3, .ref o0), (2, .ref q8), (1, .ref q0), (0, .ref b0)]) hx hb dL_law_1579 hl (k := 2) rfl rfl (by decide) rfl (fun ls hl => ?_)
              refine lv_goto (tgt := 23) hx hb dL_law_1582 (by decide) ?_
              refine W.widen (k := kc + 2) (n := ks + 9) (by omega) (by omega) ?_
              exact ih _ _ _ _ _ _ _ _ _ _ _ _ _ _ _ _ _ _ _ _ _ _ _ _ _ _ _ _ _ _ _ _ _ _ (kc + 2) (ks + 9) (by omega) (by omega) hp he _ _ hP hD hS _ (lv_sub hl [0, 3, 4, 5, 6] rfl)
            · replace hp := hp.1 c233
              replace he := he.trans (if_pos c233)
              refine lv_aload_n hx hb dL_law_1508 rfl (lv_at hl 3 rfl) ?_
              refine lv_iconst (v := 0) hx hb dL_law_1509 (by decide) ?_
              refine va_lald hx hb hK hP 28 1 rfl rfl (by decide) dL_law_1510 ?_
              refine lv_iload hx hb dL_law_1511 (lv_at hl 0 rfl) ?_
              refine lv_i2l (v := (r230).toInt64) hx hb dL_law_1513 rfl ?_
              refine W.lcmp hx hb dL_law_1514 ?_
              refine lv_if_eq (tgt := 1520) hx hb dL_law_1515 (by decide) (fun c235 => ?_) (fun c235 => ?_)
              · replace hp := hp.1 c235
                replace he := he.trans (if_pos c235)
                refine lv_goto (tgt := 1579) hx hb dL_law_1520 (by decide) ?_
                refine lv_iinc (v := (v23_4 + 3)) (lv' := [(4, .int (v23_4 + 3)), (6, .int r230), (5, .int r228), (3, .ref o0), (2, .ref q8), (1, .ref q0), (0, .ref b0)]) hx hb dL_law_1579 hl (k := 2) rfl rfl (by decide) rfl (fun ls hl => ?_)
                refine lv_goto (tgt := 23) hx hb dL_law_1582 (by decide) ?_
                refine W.widen (k := kc + 2) (n := ks + 9) (by omega) (by omega) ?_
                exact ih _ _ _ _ _ _ _ _ _ _ _ _ _ _ _ _ _ _ _ _ _ _ _ _ _ _ _ _ _ _ _ _ _ _ (kc + 2) (ks + 9) (by omega) (by omega) hp he _ _ hP hD hS _ (lv_sub hl [0, 3, 4, 5, 6] rfl)
              · replace hp := hp.2 c235
                replace he := he.trans (if_neg c235)
                refine lv_iconst (v := 0) hx hb dL_law_1518 (by decide) ?_
                exact absurd he (by decide)
          · replace hp := hp.2 c232
            replace he := he.trans (if_neg c232)
            refine lv_iconst (v := 0) hx hb dL_law_1501 (by decide) ?_
            exact absurd he (by decide)
        replace he := he.trans (if_neg s27)
        replace hp := hp.2 s27
        rcases Decidable.em (((xs (v23_4).toNatClampNeg) &&& 31) = 28) with s28 | s28
        · replace he := he.trans (if_pos s28)
          replace hp := hp.1 s28
          refine lv_tableIn (off := 1484) (tgt := 1523) hx hb dL_law_39 (by rw [s28]; decide) (by rw [s28]; decide) (by rw [s28]; rfl) (by decide) ?_
          refine lv_aload_n hx hb dL_law_1523 rfl (lv_at hl 3 rfl) ?_
          refine lv_aload_n hx hb dL_law_1524 rfl (lv_at hl 4 rfl) ?_
          refine lv_iload hx hb dL_law_1525 (lv_at hl 0 rfl) ?_
          refine lv_iconst (v := 1) hx hb dL_law_1527 (by decide) ?_
          refine lv_iadd hx hb dL_law_1528 ?_
          have h236 := hp.1
          replace hp := hp.2
          refine va_sld hx hb hX hbl hbA hS h236 dL_law_1529 ?_
          refine lv_aload_n hx hb dL_law_1530 rfl (lv_at hl 1 rfl) ?_
          have hq237 := hp.1
          replace hp := hp.2
          refine k_ycalli (S := LA) (wc := (W_O cI cJ q0 n1_0 n1_1 n1_2 n1_3 n1_4 n1_5 n1_6 n1_7 n1_8 n1_9 n1_10 n1_11 n1_12 n1_13 n1_14 o0 xr_23 xt_23 gn_23 gu_23 gb_23 ga_23 lc_23 lk_23 ln_23 lt_23 ll_23 lr_23 tw_23 tn_23 ts_23 tt_23 oo_23)) (wr := (W_X5 cI q8 n2_0 n2_1 n2_2 n2_3 n2_4 n2_5 n2_6 n2_7 n2_8 n2_9 n2_10 mr_23 mc_23 me_23 mw_23 mh_23 mn_23 mu_23 ms_23 mt_23 md_23 mz_23 mi_23 mk_23 mo_23 mj_23 ml_23)) (w1 := fun u => (W_O cI cJ q0 n1_0 n1_1 n1_2 n1_3 n1_4 n1_5 n1_6 n1_7 n1_8 n1_9 n1_10 n1_11 n1_12 n1_13 n1_14 o0 xr_23 xt_23 gn_23 gu_23 gb_23 ga_23 lc_23 lk_23 ln_23 lt_23 ll_23 lr_23 tw_23 tn_23 ts_23 tt_23 u)) (fun u => (W_L cI cJ q0 n1_0 n1_1 n1_2 n1_3 n1_4 n1_5 n1_6 n1_7 n1_8 n1_9 n1_10 n1_11 n1_12 n1_13 n1_14 q8 n2_0 n2_1 n2_2 n2_3 n2_4 n2_5 n2_6 n2_7 n2_8 n2_9 n2_10 o0 xr_23 xt_23 gn_23 gu_23 gb_23 ga_23 lc_23 lk_23 ln_23 lt_23 ll_23 lr_23 tw_23 tn_23 ts_23 tt_23 mr_23 mc_23 me_23 mw_23 mh_23 mn_23 mu_23 ms_23 mt_23 md_23 mz_23 mi_23 mk_23 mo_23 mj_23 ml_23 u)) hP hK hD hN hXB hS hA [0, 1, 2, 3, 4, 5, 6, 7, 8, 9, 10, 11, 12, 13, 14, 15, 28] [16, 17, 18, 19, 20, 21, 22, 23, 24, 25, 26, 27] rfl rfl (by decide) (by decide) (by decide) [12, 13, 14, 15, 16, 17, 18, 19, 20, 21, 22, 23, 24, 25, 26, 27, 0, 1, 2, 3, 4, 5, 6, 7, 8, 9, 10, 11, 28] (by decide) (fun _ => rfl) (fun hg => va_runS (As := [.ref q0, .int (xs ((v23_4 + 1)).toNatClampNeg), .ref o0]) (rest := []) ⟨hx, hb, hml, hown, hts⟩ (c_L_causeOf l D cI cJ q0 n1_0 n1_1 n1_2 n1_3 n1_4 n1_5 n1_6 n1_7 n1_8 n1_9 n1_10 n1_11 n1_12 n1_13 n1_14 o0 xr_23 xt_23 gn_23 gu_23 gb_23 ga_23 lc_23 lk_23 ln_23 lt_23 ll_23 lr_23 tw_23 tn_23 ts_23 tt_23 oo_23 _ (xs ((v23_4 + 1)).toNatClampNeg) hq237 hst) (va_cwS 3 hts gL_law_L_causeOf rfl rfl rfl (by decide +kernel) ⟨Nat.le_of_ble_eq_true rfl, Nat.le_of_ble_eq_true rfl⟩) ⟨PX.blind, fun U hU hW => ⟨rfl, hg U hU hW⟩⟩ rfl rfl hl.1 rfl (lv_room (Nat.le_of_ble_eq_true rfl)) dL_law_1531 ⟨(show kc + 2 ≤ 601024 from by omega), (show ks + 9 ≤ 7293034 from by omega)⟩) (fun r237 u H locs hw hP hD hS => ?_)
          obtain ⟨u237_0, rfl⟩ : ∃ z, z = u := ⟨_, rfl⟩
          rw [hw] at he
          try dsimp only at he
          replace hp := hp r237 u237_0 hw
          have hP : va_P D vwCl (W_L cI cJ q0 n1_0 n1_1 n1_2 n1_3 n1_4 n1_5 n1_6 n1_7 n1_8 n1_9 n1_10 n1_11 n1_12 n1_13 n1_14 q8 n2_0 n2_1 n2_2 n2_3 n2_4 n2_5 n2_6 n2_7 n2_8 n2_9 n2_10 o0 xr_23 xt_23 gn_23 gu_23 gb_23 ga_23 lc_23 lk_23 ln_23 lt_23 ll_23 lr_23 tw_23 tn_23 ts_23 tt_23 mr_23 mc_23 me_23 mw_23 mh_23 mn_23 mu_23 ms_23 mt_23 md_23 mz_23 mi_23 mk_23 mo_23 mj_23 ml_23 u237_0) H := hP
          have hD : va_D A (W_L cI cJ q0 n1_0 n1_1 n1_2 n1_3 n1_4 n1_5 n1_6 n1_7 n1_8 n1_9 n1_10 n1_11 n1_12 n1_13 n1_14 q8 n2_0 n2_1 n2_2 n2_3 n2_4 n2_5 n2_6 n2_7 n2_8 n2_9 n2_10 o0 xr_23 xt_23 gn_23 gu_23 gb_23 ga_23 lc_23 lk_23 ln_23 lt_23 ll_23 lr_23 tw_23 tn_23 ts_23 tt_23 mr_23 mc_23 me_23 mw_23 mh_23 mn_23 mu_23 ms_23 mt_23 md_23 mz_23 mi_23 mk_23 mo_23 mj_23 ml_23 u237_0) := hD
          refine lv_istore (lv' := [(5, .int r237), (4, .int v23_4), (3, .ref o0), (2, .ref q8), (1, .ref q0), (0, .ref b0)]) hx hb dL_law_1534 hl (by decide) rfl (fun ls hl => ?_)
          refine lv_aload_n hx hb dL_law_1536 rfl (lv_at hl 3 rfl) ?_
          refine lv_aload_n hx hb dL_law_1537 rfl (lv_at hl 5 rfl) ?_
          refine lv_iload hx hb dL_law_1538 (lv_at hl 1 rfl) ?_
          refine lv_iconst (v := 1) hx hb dL_law_1540 (by decide) ?_
          refine lv_iadd hx hb dL_law_1541 ?_
          have h238 := hp.1
          replace hp := hp.2
          refine va_sld hx hb hX hbl hbA hS h238 dL_law_1542 ?_
          have hq239 := hp.1
          replace hp := hp.2
          refine k_calli (S := Int32) (wc := (W_X5 cI q8 n2_0 n2_1 n2_2 n2_3 n2_4 n2_5 n2_6 n2_7 n2_8 n2_9 n2_10 mr_23 mc_23 me_23 mw_23 mh_23 mn_23 mu_23 ms_23 mt_23 md_23 mz_23 mi_23 mk_23 mo_23 mj_23 ml_23)) (wr := (W_O cI cJ q0 n1_0 n1_1 n1_2 n1_3 n1_4 n1_5 n1_6 n1_7 n1_8 n1_9 n1_10 n1_11 n1_12 n1_13 n1_14 o0 xr_23 xt_23 gn_23 gu_23 gb_23 ga_23 lc_23 lk_23 ln_23 lt_23 ll_23 lr_23 tw_23 tn_23 ts_23 tt_23 u237_0)) (w1 := fun u => (W_X5 cI q8 n2_0 n2_1 n2_2 n2_3 n2_4 n2_5 n2_6 n2_7 n2_8 n2_9 n2_10 mr_23 mc_23 me_23 mw_23 u mn_23 mu_23 ms_23 mt_23 md_23 mz_23 mi_23 mk_23 mo_23 mj_23 ml_23)) (fun u => (W_L cI cJ q0 n1_0 n1_1 n1_2 n1_3 n1_4 n1_5 n1_6 n1_7 n1_8 n1_9 n1_10 n1_11 n1_12 n1_13 n1_14 q8 n2_0 n2_1 n2_2 n2_3 n2_4 n2_5 n2_6 n2_7 n2_8 n2_9 n2_10 o0 xr_23 xt_23 gn_23 gu_23 gb_23 ga_23 lc_23 lk_23 ln_23 lt_23 ll_23 lr_23 tw_23 tn_23 ts_23 tt_23 mr_23 mc_23 me_23 mw_23 u mn_23 mu_23 ms_23 mt_23 md_23 mz_23 mi_23 mk_23 mo_23 mj_23 ml_23 u237_0)) hP hK hD hN hS hA [16, 17, 18, 19, 20, 21, 22, 23, 24, 25, 26, 27] [0, 1, 2, 3, 4, 5, 6, 7, 8, 9, 10, 11, 12, 13, 14, 15, 28] rfl rfl (by decide) (by decide) (by decide) [0, 1, 2, 3, 4, 5, 6, 7, 8, 9, 10, 11, 12, 13, 14, 15, 17, 18, 19, 20, 21, 22, 23, 24, 25, 26, 27, 28, 16] (by decide) (fun _ => rfl) (fun hg => va_runV (As := [.int (xs ((v23_4 + 1)).toNatClampNeg)]) (rest := []) ⟨hx, hb, hml, hown, hts⟩ (c_X5_causeOf l D cI q8 n2_0 n2_1 n2_2 n2_3 n2_4 n2_5 n2_6 n2_7 n2_8 n2_9 n2_10 mr_23 mc_23 me_23 mw_23 mh_23 mn_23 mu_23 ms_23 mt_23 md_23 mz_23 mi_23 mk_23 mo_23 mj_23 ml_23 _ (xs ((v23_4 + 1)).toNatClampNeg) hq239) (cwV 1 hts gL_law_X5_causeOf rfl rfl rfl (by decide +kernel) ⟨Nat.le_of_ble_eq_true rfl, Nat.le_of_ble_eq_true rfl⟩) ⟨PW.blind, va_recv hK hP (ci := 5) (q0 := 16) rfl rfl, fun U hU hW => ⟨rfl, hg U hU hW⟩⟩ rfl rfl hl.1 rfl (lv_room (Nat.le_of_ble_eq_true rfl)) dL_law_1543 ⟨(show (kc + 2) + 0 ≤ 601024 from by omega), (show (ks + 9) + 0 ≤ 7293034 from by omega)⟩) (fun r239 u H locs hw hP hD hS => ?_)
          obtain ⟨u239_0, rfl⟩ : ∃ z, z = u := ⟨_, rfl⟩
          rw [hw] at he
          try dsimp only at he
          replace hp := hp r239 u239_0 hw
          have hP : va_P D vwCl (W_L cI cJ q0 n1_0 n1_1 n1_2 n1_3 n1_4 n1_5 n1_6 n1_7 n1_8 n1_9 n1_10 n1_11 n1_12 n1_13 n1_14 q8 n2_0 n2_1 n2_2 n2_3 n2_4 n2_5 n2_6 n2_7 n2_8 n2_9 n2_10 o0 xr_23 xt_23 gn_23 gu_23 gb_23 ga_23 lc_23 lk_23 ln_23 lt_23 ll_23 lr_23 tw_23 tn_23 ts_23 tt_23 mr_23 mc_23 me_23 mw_23 u239_0 mn_23 mu_23 ms_23 mt_23 md_23 mz_23 mi_23 mk_23 mo_23 mj_23 ml_23 u237_0) H := hP
          have hD : va_D A (W_L cI cJ q0 n1_0 n1_1 n1_2 n1_3 n1_4 n1_5 n1_6 n1_7 n1_8 n1_9 n1_10 n1_11 n1_12 n1_13 n1_14 q8 n2_0 n2_1 n2_2 n2_3 n2_4 n2_5 n2_6 n2_7 n2_8 n2_9 n2_10 o0 xr_23 xt_23 gn_23 gu_23 gb_23 ga_23 lc_23 lk_23 ln_23 lt_23 ll_23 lr_23 tw_23 tn_23 ts_23 tt_23 mr_23 mc_23 me_23 mw_23 u239_0 mn_23 mu_23 ms_23 mt_23 md_23 mz_23 mi_23 mk_23 mo_23 mj_23 ml_23 u237_0) := hD
          refine lv_istore (lv' := [(6, .int r239), (5, .int r237), (4, .int v23_4), (3, .ref o0), (2, .ref q8), (1, .ref q0), (0, .ref b0)]) hx hb dL_law_1546 hl (by decide) rfl (fun ls hl => ?_)
          refine lv_aload_n hx hb dL_law_1548 rfl (lv_at hl 4 rfl) ?_
          refine k_calli (S := Unit) (wc := (W_X5 cI q8 n2_0 n2_1 n2_2 n2_3 n2_4 n2_5 n2_6 n2_7 n2_8 n2_9 n2_10 mr_23 mc_23 me_23 mw_23 u239_0 mn_23 mu_23 ms_23 mt_23 md_23 mz_23 mi_23 mk_23 mo_23 mj_23 ml_23)) (wr := (W_O cI cJ q0 n1_0 n1_1 n1_2 n1_3 n1_4 n1_5 n1_6 n1_7 n1_8 n1_9 n1_10 n1_11 n1_12 n1_13 n1_14 o0 xr_23 xt_23 gn_23 gu_23 gb_23 ga_23 lc_23 lk_23 ln_23 lt_23 ll_23 lr_23 tw_23 tn_23 ts_23 tt_23 u237_0)) (w1 := fun u => (W_X5 cI q8 n2_0 n2_1 n2_2 n2_3 n2_4 n2_5 n2_6 n2_7 n2_8 n2_9 n2_10 mr_23 mc_23 me_23 mw_23 u239_0 mn_23 mu_23 ms_23 mt_23 md_23 mz_23 mi_23 mk_23 mo_23 mj_23 ml_23)) (fun u => (W_L cI cJ q0 n1_0 n1_1 n1_2 n1_3 n1_4 n1_5 n1_6 n1_7 n1_8 n1_9 n1_10 n1_11 n1_12 n1_13 n1_14 q8 n2_0 n2_1 n2_2 n2_3 n2_4 n2_5 n2_6 n2_7 n2_8 n2_9 n2_10 o0 xr_23 xt_23 gn_23 gu_23 gb_23 ga_23 lc_23 lk_23 ln_23 lt_23 ll_23 lr_23 tw_23 tn_23 ts_23 tt_23 mr_23 mc_23 me_23 mw_23 u239_0 mn_23 mu_23 ms_23 mt_23 md_23 mz_23 mi_23 mk_23 mo_23 mj_23 ml_23 u237_0)) hP hK hD hN hS hA [16, 17, 18, 19, 20, 21, 22, 23, 24, 25, 26, 27] [0, 1, 2, 3, 4, 5, 6, 7, 8, 9, 10, 11, 12, 13, 14, 15, 28] rfl rfl (by decide) (by decide) (by decide) [0, 1, 2, 3, 4, 5, 6, 7, 8, 9, 10, 11, 12, 13, 14, 15, 17, 18, 19, 20, 21, 22, 23, 24, 25, 26, 27, 28, 16] (by decide) (fun _ => rfl) (fun hg => va_runV (As := []) (rest := []) ⟨hx, hb, hml, hown, hts⟩ (c_X5_thrown l D cI q8 n2_0 n2_1 n2_2 n2_3 n2_4 n2_5 n2_6 n2_7 n2_8 n2_9 n2_10 mr_23 mc_23 me_23 mw_23 u239_0 mn_23 mu_23 ms_23 mt_23 md_23 mz_23 mi_23 mk_23 mo_23 mj_23 ml_23 _ ) (cwV 0 hts gL_law_X5_thrown rfl rfl rfl (by decide +kernel) ⟨Nat.le_of_ble_eq_true rfl, Nat.le_of_ble_eq_true rfl⟩) ⟨PW.blind, va_recv hK hP (ci := 5) (q0 := 16) rfl rfl, fun U hU hW => ⟨rfl, hg U hU hW⟩⟩ rfl rfl hl.1 rfl (lv_room (Nat.le_of_ble_eq_true rfl)) dL_law_1549 ⟨(show (kc + 2) + 0 ≤ 601024 from by omega), (show (ks + 9) + 0 ≤ 7293034 from by omega)⟩) (fun r240 u H locs hw hP hD hS => ?_)
          subst hw
          refine lv_iload hx hb dL_law_1552 (lv_at hl 1 rfl) ?_
          refine lv_icmp_eq (tgt := 1559) hx hb dL_law_1554 (by decide) (fun c241 => ?_) (fun c241 => ?_)
          · replace hp := hp.1 c241
            replace he := he.trans (if_pos c241)
            refine lv_iload hx hb dL_law_1559 (lv_at hl 1 rfl) ?_
            refine lv_if_ne (tgt := 1576) hx hb dL_law_1561 (by decide) (fun c242 => ?_) (fun c242 => ?_)
            · replace hp := hp.2 c242
              replace he := he.trans (if_neg c242)
              refine lv_goto (tgt := 1579) hx hb dL_law_1576 (by decide) ?_
              refine lv_iinc (v := (v23_4 + 3)) (lv' := [(4, .int (v23_4 + 3)), (6, .int r239), (5, .int r237), (3, .ref o0), (2, .ref q8), (1, .ref q0), (0, .ref b0)]) hx hb dL_law_1579 hl (k := 2) rfl rfl (by decide) rfl (fun ls hl => ?_)
              refine lv_goto (tgt := 23) hx hb dL_law_1582 (by decide) ?_
              refine W.widen (k := kc + 2) (n := ks + 9) (by omega) (by omega) ?_
              exact ih _ _ _ _ _ _ _ _ _ _ _ _ _ _ _ _ _ _ _ _ _ _ _ _ _ _ _ _ _ _ _ _ _ _ (kc + 2) (ks + 9) (by omega) (by omega) hp he _ _ hP hD hS _ (lv_sub hl [0, 3, 4, 5, 6] rfl)
            · replace hp := hp.1 c242
              replace he := he.trans (if_pos c242)
              refine lv_aload_n hx hb dL_law_1564 rfl (lv_at hl 3 rfl) ?_
              refine lv_iconst (v := 0) hx hb dL_law_1565 (by decide) ?_
              refine va_lald hx hb hK hP 28 1 rfl rfl (by decide) dL_law_1566 ?_
              refine lv_iload hx hb dL_law_1567 (lv_at hl 0 rfl) ?_
              refine lv_i2l (v := (r239).toInt64) hx hb dL_law_1569 rfl ?_
              refine W.lcmp hx hb dL_law_1570 ?_
              refine lv_if_eq (tgt := 1576) hx hb dL_law_1571 (by decide) (fun c244 => ?_) (fun c244 => ?_)
              · replace hp := hp.1 c244
                replace he := he.trans (if_pos c244)
                refine lv_goto (tgt := 1579) hx hb dL_law_1576 (by decide) ?_
                refine lv_iinc (v := (v23_4 + 3)) (lv' := [(4, .int (v23_4 + 3)), (6, .int r239), (5, .int r237), (3, .ref o0), (2, .ref q8), (1, .ref q0), (0, .ref b0)]) hx hb dL_law_1579 hl (k := 2) rfl rfl (by decide) rfl (fun ls hl => ?_)
                refine lv_goto (tgt := 23) hx hb dL_law_1582 (by decide) ?_
                refine W.widen (k := kc + 2) (n := ks + 9) (by omega) (by omega) ?_
                exact ih _ _ _ _ _ _ _ _ _ _ _ _ _ _ _ _ _ _ _ _ _ _ _ _ _ _ _ _ _ _ _ _ _ _ (kc + 2) (ks + 9) (by omega) (by omega) hp he _ _ hP hD hS _ (lv_sub hl [0, 3, 4, 5, 6] rfl)
              · replace hp := hp.2 c244
                replace he := he.trans (if_neg c244)
                refine lv_iconst (v := 0) hx hb dL_law_1574 (by decide) ?_
                exact absurd he (by decide)
          · replace hp := hp.2 c241
            replace he := he.trans (if_neg c241)
            refine lv_iconst (v := 0) hx hb dL_law_1557 (by decide) ?_
            exact absurd he (by decide)
        replace he := he.trans (if_neg s28)
        replace hp := hp.2 s28
        refine lv_tableOut (tgt := 1579) hx hb dL_law_39 (k_switch s0 s1 s2 s3 s4 s5 s6 s7 s8 s9 s10 s11 s12 s13 s14 s15 s16 s17 s18 s19 s20 s21 s22 s23 s24 s25 s26 s27 s28) (by decide) ?_
        refine lv_iinc (v := (v23_4 + 3)) (lv' := [(4, .int (v23_4 + 3)), (3, .ref o0), (2, .ref q8), (1, .ref q0), (0, .ref b0)]) hx hb dL_law_1579 hl (k := 0) rfl rfl (by decide) rfl (fun ls hl => ?_)
        refine lv_goto (tgt := 23) hx hb dL_law_1582 (by decide) ?_
        refine W.widen (k := kc + 2) (n := ks + 9) (by omega) (by omega) ?_
        exact ih _ _ _ _ _ _ _ _ _ _ _ _ _ _ _ _ _ _ _ _ _ _ _ _ _ _ _ _ _ _ _ _ _ _ (kc + 2) (ks + 9) (by omega) (by omega) hp he _ _ hP hD hS _ (lv_sub hl [0, 1, 2, 3, 4] rfl)
  exact loop3 514 (0 : Int32) (0 : Int32) (0 : Int32) u1_0 u1_1 u1_2 u1_3 u1_4 u1_5 u1_6 u1_7 u1_8 u1_9 u1_10 u1_11 u1_12 u1_13 (0 : Int32) (0 : Int32) (0 : Int32) (0 : Int32) (0 : Int32) u2_0 u2_1 u2_2 u2_3 u2_4 u2_5 u2_6 u2_7 u2_8 u2_9 u2_10 (fun _ => 0) 29 4084 (by omega) (by omega) hp he _ _ hP hD hS _ (lv_sub hl [0, 1, 2, 3, 4] rfl)
