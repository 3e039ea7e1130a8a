set_option maxHeartbeats 40000000 in
set_option maxRecDepth 100000 in
theorem law_walk {p : Program} {e : Env} {s : State} {m : MethodId} {below : List Frame} {meth : Method} {c : Code} (l : Launch) (hst : l.stackTraces = false) {b0 L : Nat} {xs : Nat → Int32} (hL : L ≤ 1536) (C0 : lw_At p s m meth c b0 L xs) (hN : NB s) (hXB : XB (fun q => s.heap.size ≤ q) s s.heap) (D : va_G) (cI : ClassId) (hK : va_K D vwCl [(cI, .int)] s) (he : (1 : Int32) = f_L_law xs L) (hp : p_L_law xs L) : W p l e room_1 s m #[Value.ref b0] below meth c s.heap [] 0 0 (lw_Z below #[Value.ref b0] s) (entryFrame m ([Value.ref b0] : List Value).toArray 7) := by
  obtain ⟨hx, hb, hr, hml, hown, hts, hX, hbl, hlocks, hgv⟩ := id C0
  have hts := fun w h => hts w (wsL_law_in w h)
  have hown : s.vm.findClass RL = some m.cls := hown
  obtain ⟨A, hAe⟩ : ∃ A : Nat → Prop, A = fun q => s.heap.size ≤ q := ⟨_, rfl⟩
  rw [← hAe] at hXB
  have hA : ∀ q : Nat, s.heap.size ≤ q → A q := fun q h => by rw [hAe]; exact h
  have hAle : ∀ q : Nat, A q → s.heap.size ≤ q := fun q h => by rw [hAe] at h; exact h
  have hbA : ¬ A b0 := fun h => Nat.not_le.mpr hbl (hAle _ h)
  have hS : va_S A s.heap s.heap [] := va_S.rf
  have hP : va_P D vwCl [] s.heap := fun k q h => by simp at h
  have hD : va_D A [] := ⟨fun i j p q h => by simp at h, fun k q h => by simp at h⟩
  have hl := lv_entry ([.ref b0]) (n := 7) (Nat.le_of_ble_eq_true rfl)
  rw [lg_entry_eq]
  generalize (lg_sl ([.ref b0]) ++ List.replicate (7 - (lg_sl ([.ref b0])).length) Slot.unset).toArray = ls at hl ⊢
  have hl : lv_has ls 7 [(0, .ref b0)] := hl
  replace he := he.trans (f_L_law.eq_1 ..)
  replace hp := Eq.mp (p_L_law.eq_1 ..) hp
  refine va_new (ci := 4) (fs := [.null, .null, .null, .int 0, .int 0]) (C := RX4) (T := TX4) (N := 5) hx hb hts (by decide +kernel) tyX4 tyX4_ok hown (hts (.classLink RL 8 RX4) (by decide +kernel)) (hts (.instantiable RX4 5) (by decide +kernel)) (hts (.initialized RX4) (by decide +kernel)) hK hP hD hS hA rfl (fun j hj => by rcases (show j = 0 ∨ j = 1 ∨ j = 2 ∨ j = 3 ∨ j = 4 by omega) with rfl | rfl | rfl | rfl | rfl <;> rfl) (Nat.le_of_ble_eq_true rfl) (Nat.le_of_ble_eq_true rfl) dL_law_0 (fun q0 H hP hD hS => ?_)
  have hP : va_P D vwCl [(q0, .inr (4, [.null, .null, .null, .int 0, .int 0]))] H := hP
  have hD : va_D A [(q0, .inr (4, [.null, .null, .null, .int 0, .int 0]))] := hD
  refine lv_dup hx hb dL_law_3 rfl ?_
  have hq1 := hp.1
  replace hp := hp.2
  refine k_callv (S := (AA × AA × AA × AA × Int32 × AA × AA × AA × AA × AA × Int32 × AA × AA) × (Nat × Nat × Nat × Nat × Nat × Nat × Nat × Nat × Nat × Nat × Nat × Nat × Nat × Nat)) (wc := [(q0, .inr (4, [.null, .null, .null, .int 0, .int 0]))]) (wr := ([] : va_W)) (w1 := fun u => (W_X4 cI q0 u.2.1 u.2.2.1 u.2.2.2.1 u.2.2.2.2.1 u.2.2.2.2.2.1 u.2.2.2.2.2.2.1 u.2.2.2.2.2.2.2.1 u.2.2.2.2.2.2.2.2.1 u.2.2.2.2.2.2.2.2.2.1 u.2.2.2.2.2.2.2.2.2.2.1 u.2.2.2.2.2.2.2.2.2.2.2.1 u.2.2.2.2.2.2.2.2.2.2.2.2.1 u.2.2.2.2.2.2.2.2.2.2.2.2.2.1 u.2.2.2.2.2.2.2.2.2.2.2.2.2.2 0 0 u.1.1 u.1.2.1 u.1.2.2.1 u.1.2.2.2.1 u.1.2.2.2.2.1 u.1.2.2.2.2.2.1 u.1.2.2.2.2.2.2.1 u.1.2.2.2.2.2.2.2.1 u.1.2.2.2.2.2.2.2.2.1 u.1.2.2.2.2.2.2.2.2.2.1 u.1.2.2.2.2.2.2.2.2.2.2.1 u.1.2.2.2.2.2.2.2.2.2.2.2.1 u.1.2.2.2.2.2.2.2.2.2.2.2.2)) (fun u => (W_X4 cI q0 u.2.1 u.2.2.1 u.2.2.2.1 u.2.2.2.2.1 u.2.2.2.2.2.1 u.2.2.2.2.2.2.1 u.2.2.2.2.2.2.2.1 u.2.2.2.2.2.2.2.2.1 u.2.2.2.2.2.2.2.2.2.1 u.2.2.2.2.2.2.2.2.2.2.1 u.2.2.2.2.2.2.2.2.2.2.2.1 u.2.2.2.2.2.2.2.2.2.2.2.2.1 u.2.2.2.2.2.2.2.2.2.2.2.2.2.1 u.2.2.2.2.2.2.2.2.2.2.2.2.2.2 0 0 u.1.1 u.1.2.1 u.1.2.2.1 u.1.2.2.2.1 u.1.2.2.2.2.1 u.1.2.2.2.2.2.1 u.1.2.2.2.2.2.2.1 u.1.2.2.2.2.2.2.2.1 u.1.2.2.2.2.2.2.2.2.1 u.1.2.2.2.2.2.2.2.2.2.1 u.1.2.2.2.2.2.2.2.2.2.2.1 u.1.2.2.2.2.2.2.2.2.2.2.2.1 u.1.2.2.2.2.2.2.2.2.2.2.2.2)) hP (hK.sub [0] rfl) hD hN hS hA [0] [] rfl rfl (by decide) (by decide) (by decide) [0, 1, 2, 3, 4, 5, 6, 7, 8, 9, 10, 11, 12, 13, 14] (by decide) (fun _ => rfl) (fun hg => va_runI (As := []) (rest := [.ref q0]) ⟨hx, hb, hml, hown, hts⟩ (c_X4_init l D cI q0 _ hq1) (cwI 0 hts gL_law_X4_init rfl rfl rfl (hts (.initialized RX4) (by decide +kernel)) (hts (.methodLink RL 82 yX4_init) (by decide +kernel)) (hts (.instanceMethod yX4_init) (by decide +kernel)) rfl (by decide +kernel) ⟨Nat.le_of_ble_eq_true rfl, Nat.le_of_ble_eq_true rfl⟩) ⟨PW.blind, fun U hU hW => ⟨rfl, hg U hU hW⟩⟩ rfl rfl hl.1 rfl (lv_room ((by exact Nat.le_of_ble_eq_true rfl))) dL_law_4 ⟨(by show 1 + 14 ≤ 601024; omega), (by show 5 + 1598 ≤ 7293034; omega)⟩) (fun u H locs hw hP hD hS => ?_)
  obtain ⟨⟨u1_0, u1_1, u1_2, u1_3, u1_4, u1_5, u1_6, u1_7, u1_8, u1_9, u1_10, u1_11, u1_12⟩, ⟨n1_0, n1_1, n1_2, n1_3, n1_4, n1_5, n1_6, n1_7, n1_8, n1_9, n1_10, n1_11, n1_12, n1_13⟩⟩ := u
  try dsimp only at hw
  rw [hw] at he
  try dsimp only at he
  replace hp := hp u1_0 u1_1 u1_2 u1_3 u1_4 u1_5 u1_6 u1_7 u1_8 u1_9 u1_10 u1_11 u1_12 hw
  have hP : va_P D vwCl (W_X4 cI q0 n1_0 n1_1 n1_2 n1_3 n1_4 n1_5 n1_6 n1_7 n1_8 n1_9 n1_10 n1_11 n1_12 n1_13 0 0 u1_0 u1_1 u1_2 u1_3 u1_4 u1_5 u1_6 u1_7 u1_8 u1_9 u1_10 u1_11 u1_12) H := hP
  have hD : va_D A (W_X4 cI q0 n1_0 n1_1 n1_2 n1_3 n1_4 n1_5 n1_6 n1_7 n1_8 n1_9 n1_10 n1_11 n1_12 n1_13 0 0 u1_0 u1_1 u1_2 u1_3 u1_4 u1_5 u1_6 u1_7 u1_8 u1_9 u1_10 u1_11 u1_12) := hD
  refine lv_astore_n (lv' := [(1, .ref q0), (0, .ref b0)]) hx hb dL_law_7 rfl hl (by decide) rfl (fun ls hl => ?_)
  refine va_new (ci := 5) (fs := [.null, .null, .int 0, .null, .null, .null, .null, .null, .int 0, .null, .null, .null, .null, .int 0, .int 0, .int 0]) (C := RX5) (T := TX5) (N := 16) hx hb hts (by decide +kernel) tyX5 tyX5_ok hown (hts (.classLink RL 83 RX5) (by decide +kernel)) (hts (.instantiable RX5 16) (by decide +kernel)) (hts (.initialized RX5) (by decide +kernel)) hK hP hD hS hA rfl (fun j hj => by rcases (show j = 0 ∨ j = 1 ∨ j = 2 ∨ j = 3 ∨ j = 4 ∨ j = 5 ∨ j = 6 ∨ j = 7 ∨ j = 8 ∨ j = 9 ∨ j = 10 ∨ j = 11 ∨ j = 12 ∨ j = 13 ∨ j = 14 ∨ j = 15 by omega) with rfl | rfl | rfl | rfl | rfl | rfl | rfl | rfl | rfl | rfl | rfl | rfl | rfl | rfl | rfl | rfl <;> rfl) (Nat.le_of_ble_eq_true rfl) (Nat.le_of_ble_eq_true rfl) dL_law_8 (fun q8 H hP hD hS => ?_)
  have hP : va_P D vwCl ((W_X4 cI q0 n1_0 n1_1 n1_2 n1_3 n1_4 n1_5 n1_6 n1_7 n1_8 n1_9 n1_10 n1_11 n1_12 n1_13 0 0 u1_0 u1_1 u1_2 u1_3 u1_4 u1_5 u1_6 u1_7 u1_8 u1_9 u1_10 u1_11 u1_12) ++ [(q8, .inr (5, [.null, .null, .int 0, .null, .null, .null, .null, .null, .int 0, .null, .null, .null, .null, .int 0, .int 0, .int 0]))]) H := hP
  have hD : va_D A ((W_X4 cI q0 n1_0 n1_1 n1_2 n1_3 n1_4 n1_5 n1_6 n1_7 n1_8 n1_9 n1_10 n1_11 n1_12 n1_13 0 0 u1_0 u1_1 u1_2 u1_3 u1_4 u1_5 u1_6 u1_7 u1_8 u1_9 u1_10 u1_11 u1_12) ++ [(q8, .inr (5, [.null, .null, .int 0, .null, .null, .null, .null, .null, .int 0, .null, .null, .null, .null, .int 0, .int 0, .int 0]))]) := hD
  refine lv_dup hx hb dL_law_11 rfl ?_
  refine k_callv (S := (AA × AA × AA × AA × AA × AA × AA × AA × AA × AA × AA) × (Nat × Nat × Nat × Nat × Nat × Nat × Nat × Nat × Nat × Nat × Nat)) (wc := [(q8, .inr (5, [.null, .null, .int 0, .null, .null, .null, .null, .null, .int 0, .null, .null, .null, .null, .int 0, .int 0, .int 0]))]) (wr := (W_X4 cI q0 n1_0 n1_1 n1_2 n1_3 n1_4 n1_5 n1_6 n1_7 n1_8 n1_9 n1_10 n1_11 n1_12 n1_13 0 0 u1_0 u1_1 u1_2 u1_3 u1_4 u1_5 u1_6 u1_7 u1_8 u1_9 u1_10 u1_11 u1_12)) (w1 := fun u => (W_X5 cI q8 u.2.1 u.2.2.1 u.2.2.2.1 u.2.2.2.2.1 u.2.2.2.2.2.1 u.2.2.2.2.2.2.1 u.2.2.2.2.2.2.2.1 u.2.2.2.2.2.2.2.2.1 u.2.2.2.2.2.2.2.2.2.1 u.2.2.2.2.2.2.2.2.2.2.1 u.2.2.2.2.2.2.2.2.2.2.2 0 0 0 0 0 u.1.1 u.1.2.1 u.1.2.2.1 u.1.2.2.2.1 u.1.2.2.2.2.1 u.1.2.2.2.2.2.1 u.1.2.2.2.2.2.2.1 u.1.2.2.2.2.2.2.2.1 u.1.2.2.2.2.2.2.2.2.1 u.1.2.2.2.2.2.2.2.2.2.1 u.1.2.2.2.2.2.2.2.2.2.2)) (fun u => ((W_X4 cI q0 n1_0 n1_1 n1_2 n1_3 n1_4 n1_5 n1_6 n1_7 n1_8 n1_9 n1_10 n1_11 n1_12 n1_13 0 0 u1_0 u1_1 u1_2 u1_3 u1_4 u1_5 u1_6 u1_7 u1_8 u1_9 u1_10 u1_11 u1_12) ++ (W_X5 cI q8 u.2.1 u.2.2.1 u.2.2.2.1 u.2.2.2.2.1 u.2.2.2.2.2.1 u.2.2.2.2.2.2.1 u.2.2.2.2.2.2.2.1 u.2.2.2.2.2.2.2.2.1 u.2.2.2.2.2.2.2.2.2.1 u.2.2.2.2.2.2.2.2.2.2.1 u.2.2.2.2.2.2.2.2.2.2.2 0 0 0 0 0 u.1.1 u.1.2.1 u.1.2.2.1 u.1.2.2.2.1 u.1.2.2.2.2.1 u.1.2.2.2.2.2.1 u.1.2.2.2.2.2.2.1 u.1.2.2.2.2.2.2.2.1 u.1.2.2.2.2.2.2.2.2.1 u.1.2.2.2.2.2.2.2.2.2.1 u.1.2.2.2.2.2.2.2.2.2.2))) hP (hK.sub [0] rfl) hD hN hS hA [15] [0, 1, 2, 3, 4, 5, 6, 7, 8, 9, 10, 11, 12, 13, 14] rfl rfl (by decide) (by decide) (by decide) [0, 1, 2, 3, 4, 5, 6, 7, 8, 9, 10, 11, 12, 13, 14, 15, 16, 17, 18, 19, 20, 21, 22, 23, 24, 25, 26] (by decide) (fun _ => rfl) (fun hg => va_runI (As := []) (rest := [.ref q8]) ⟨hx, hb, hml, hown, hts⟩ (c_X5_init l D cI q8 _ ) (cwI 0 hts gL_law_X5_init rfl rfl rfl (hts (.initialized RX5) (by decide +kernel)) (hts (.methodLink RL 85 yX5_init) (by decide +kernel)) (hts (.instanceMethod yX5_init) (by decide +kernel)) rfl (by decide +kernel) ⟨Nat.le_of_ble_eq_true rfl, Nat.le_of_ble_eq_true rfl⟩) ⟨PW.blind, fun U hU hW => ⟨rfl, hg U hU hW⟩⟩ rfl rfl hl.1 rfl (lv_room ((by exact Nat.le_of_ble_eq_true rfl))) dL_law_12 ⟨(by show 16 + 11 ≤ 601024; omega), (by show 1619 + 2162 ≤ 7293034; omega)⟩) (fun u H locs hw hP hD hS => ?_)
  obtain ⟨⟨u2_0, u2_1, u2_2, u2_3, u2_4, u2_5, u2_6, u2_7, u2_8, u2_9, u2_10⟩, ⟨n2_0, n2_1, n2_2, n2_3, n2_4, n2_5, n2_6, n2_7, n2_8, n2_9, n2_10⟩⟩ := u
  try dsimp only at hw
  rw [hw] at he
  try dsimp only at he
  replace hp := hp u2_0 u2_1 u2_2 u2_3 u2_4 u2_5 u2_6 u2_7 u2_8 u2_9 u2_10 hw
  have hP : va_P D vwCl ((W_X4 cI q0 n1_0 n1_1 n1_2 n1_3 n1_4 n1_5 n1_6 n1_7 n1_8 n1_9 n1_10 n1_11 n1_12 n1_13 0 0 u1_0 u1_1 u1_2 u1_3 u1_4 u1_5 u1_6 u1_7 u1_8 u1_9 u1_10 u1_11 u1_12) ++ (W_X5 cI q8 n2_0 n2_1 n2_2 n2_3 n2_4 n2_5 n2_6 n2_7 n2_8 n2_9 n2_10 0 0 0 0 0 u2_0 u2_1 u2_2 u2_3 u2_4 u2_5 u2_6 u2_7 u2_8 u2_9 u2_10)) H := hP
  have hD : va_D A ((W_X4 cI q0 n1_0 n1_1 n1_2 n1_3 n1_4 n1_5 n1_6 n1_7 n1_8 n1_9 n1_10 n1_11 n1_12 n1_13 0 0 u1_0 u1_1 u1_2 u1_3 u1_4 u1_5 u1_6 u1_7 u1_8 u1_9 u1_10 u1_11 u1_12) ++ (W_X5 cI q8 n2_0 n2_1 n2_2 n2_3 n2_4 n2_5 n2_6 n2_7 n2_8 n2_9 n2_10 0 0 0 0 0 u2_0 u2_1 u2_2 u2_3 u2_4 u2_5 u2_6 u2_7 u2_8 u2_9 u2_10)) := hD
  refine lv_astore_n (lv' := [(2, .ref q8), (1, .ref q0), (0, .ref b0)]) hx hb dL_law_15 rfl hl (by decide) rfl (fun ls hl => ?_)
  refine lv_iconst (v := 1) hx hb dL_law_16 (by decide) ?_
  refine va_newa (atype := .long) (ty := .long) (a0 := (1, .inr (.inl (fun _ => 0)))) hx hb (hts (.arrayClass .long) (by decide +kernel)) rfl hK hP hD hS hA (fun cA => rfl) (by decide) (by decide) (by decide) (Nat.le_of_ble_eq_true rfl) (Nat.le_of_ble_eq_true rfl) dL_law_17 (fun o0 cJ H hK hP hD hS => ?_)
  have hK : va_K D vwCl [(cI, .int), (cJ, .long)] s := hK
  have hP : va_P D vwCl (W_L cI cJ q0 n1_0 n1_1 n1_2 n1_3 n1_4 n1_5 n1_6 n1_7 n1_8 n1_9 n1_10 n1_11 n1_12 n1_13 q8 n2_0 n2_1 n2_2 n2_3 n2_4 n2_5 n2_6 n2_7 n2_8 n2_9 n2_10 o0 0 0 u1_0 u1_1 u1_2 u1_3 u1_4 u1_5 u1_6 u1_7 u1_8 u1_9 u1_10 u1_11 u1_12 0 0 0 0 0 u2_0 u2_1 u2_2 u2_3 u2_4 u2_5 u2_6 u2_7 u2_8 u2_9 u2_10 (fun _ => 0)) H := hP
  have hD : va_D A (W_L cI cJ q0 n1_0 n1_1 n1_2 n1_3 n1_4 n1_5 n1_6 n1_7 n1_8 n1_9 n1_10 n1_11 n1_12 n1_13 q8 n2_0 n2_1 n2_2 n2_3 n2_4 n2_5 n2_6 n2_7 n2_8 n2_9 n2_10 o0 0 0 u1_0 u1_1 u1_2 u1_3 u1_4 u1_5 u1_6 u1_7 u1_8 u1_9 u1_10 u1_11 u1_12 0 0 0 0 0 u2_0 u2_1 u2_2 u2_3 u2_4 u2_5 u2_6 u2_7 u2_8 u2_9 u2_10 (fun _ => 0)) := hD
  refine lv_astore_n (lv' := [(3, .ref o0), (2, .ref q8), (1, .ref q0), (0, .ref b0)]) hx hb dL_law_19 rfl hl (by decide) rfl (fun ls hl => ?_)
  refine lv_iconst (v := 0) hx hb dL_law_20 (by decide) ?_
  refine lv_istore (lv' := [(4, .int 0), (3, .ref o0), (2, .ref q8), (1, .ref q0), (0, .ref b0)]) hx hb dL_law_21 hl (by decide) rfl (fun ls hl => ?_)
  have loop3 : ∀ (n : Nat) (v23_4 : Int32) (xr_23 : Int32) (xt_23 : Int32) (gn_23 : AA) (gu_23 : AA) (gb_23 : AA) (ga_23 : AA) (lc_23 : Int32) (lk_23 : AA) (ln_23 : AA) (lt_23 : AA) (ll_23 : AA) (lr_23 : AA) (tw_23 : Int32) (tn_23 : AA) (tt_23 : AA) (mr_23 : Int32) (mc_23 : Int32) (me_23 : Int32) (mw_23 : Int32) (mh_23 : Int32) (mn_23 : AA) (mu_23 : AA) (ms_23 : AA) (mt_23 : AA) (md_23 : AA) (mz_23 : AA) (mi_23 : AA) (mk_23 : AA) (mo_23 : AA) (mj_23 : AA) (ml_23 : AA) (oo_23 : LA), ∀ (kc ks : Nat), kc + n * 3 + 64 ≤ 601024 → ks + n * 18 + 64 ≤ 7293034 → p_L_law_L23 xs L n v23_4 xr_23 xt_23 gn_23 gu_23 gb_23 ga_23 lc_23 lk_23 ln_23 lt_23 ll_23 lr_23 tw_23 tn_23 tt_23 mr_23 mc_23 me_23 mw_23 mh_23 mn_23 mu_23 ms_23 mt_23 md_23 mz_23 mi_23 mk_23 mo_23 mj_23 ml_23 oo_23 → (1 : Int32) = f_L_law_L23 xs L n v23_4 xr_23 xt_23 gn_23 gu_23 gb_23 ga_23 lc_23 lk_23 ln_23 lt_23 ll_23 lr_23 tw_23 tn_23 tt_23 mr_23 mc_23 me_23 mw_23 mh_23 mn_23 mu_23 ms_23 mt_23 md_23 mz_23 mi_23 mk_23 mo_23 mj_23 ml_23 oo_23 → ∀ (H : Heap) (locs : List Loc), va_P D vwCl (W_L cI cJ q0 n1_0 n1_1 n1_2 n1_3 n1_4 n1_5 n1_6 n1_7 n1_8 n1_9 n1_10 n1_11 n1_12 n1_13 q8 n2_0 n2_1 n2_2 n2_3 n2_4 n2_5 n2_6 n2_7 n2_8 n2_9 n2_10 o0 xr_23 xt_23 gn_23 gu_23 gb_23 ga_23 lc_23 lk_23 ln_23 lt_23 ll_23 lr_23 tw_23 tn_23 tt_23 mr_23 mc_23 me_23 mw_23 mh_23 mn_23 mu_23 ms_23 mt_23 md_23 mz_23 mi_23 mk_23 mo_23 mj_23 ml_23 oo_23) H → va_D A (W_L cI cJ q0 n1_0 n1_1 n1_2 n1_3 n1_4 n1_5 n1_6 n1_7 n1_8 n1_9 n1_10 n1_11 n1_12 n1_13 q8 n2_0 n2_1 n2_2 n2_3 n2_4 n2_5 n2_6 n2_7 n2_8 n2_9 n2_10 o0 xr_23 xt_23 gn_23 gu_23 gb_23 ga_23 lc_23 lk_23 ln_23 lt_23 ll_23 lr_23 tw_23 tn_23 tt_23 mr_23 mc_23 me_23 mw_23 mh_23 mn_23 mu_23 ms_23 mt_23 md_23 mz_23 mi_23 mk_23 mo_23 mj_23 ml_23 oo_23) → va_S A s.heap H locs → ∀ ls : Array Slot, lv_has ls 7 [(4, .int v23_4), (3, .ref o0), (2, .ref q8), (1, .ref q0), (0, .ref b0)] → W p l e room_1 s m #[Value.ref b0] below meth c H locs kc ks (lw_Z below #[Value.ref b0] s) (F0 m 23 ls []) := by
    intro n
    induction n with
    | zero => exact fun _ _ _ _ _ _ _ _ _ _ _ _ _ _ _ _ _ _ _ _ _ _ _ _ _ _ _ _ _ _ _ _ _ _ _ _ _ hp => hp.elim
    | succ n ih =>
      intro v23_4 xr_23 xt_23 gn_23 gu_23 gb_23 ga_23 lc_23 lk_23 ln_23 lt_23 ll_23 lr_23 tw_23 tn_23 tt_23 mr_23 mc_23 me_23 mw_23 mh_23 mn_23 mu_23 ms_23 mt_23 md_23 mz_23 mi_23 mk_23 mo_23 mj_23 ml_23 oo_23 kc ks hkc hks hp he H locs hP hD hS ls hl
      replace hp := Eq.mp (p_L_law_L23.eq_2 ..) hp
      replace he := he.trans (f_L_law_L23.eq_2 ..)
      refine lv_iload hx hb dL_law_23 (lv_at hl 0 rfl) ?_
      refine lv_aload_n hx hb dL_law_25 rfl (lv_at hl 4 rfl) ?_
      refine va_slen hx hb hX hbl hbA hS dL_law_26 ?_
      refine lv_iconst (v := 3) hx hb dL_law_27 (by decide) ?_
      refine lv_isub hx hb dL_law_28 ?_
      refine lv_icmp_gt (tgt := 1585) hx hb dL_law_29 (by decide) (fun c4 => ?_) (fun c4 => ?_)
      · replace hp := hp.1 c4
        replace he := he.trans (if_pos c4)
        refine lv_iconst (v := 1) hx hb dL_law_1585 (by decide) ?_
        refine va_forget (fun q hq => hAle _ (hS.2.2 q hq)) ?_
        refine W.widen (k := 601024) (n := 7293034) (by omega) (by omega) ?_
        exact lw_ret hx hb hr hlocks dL_law_1586
      · replace hp := hp.2 c4
        replace he := he.trans (if_neg c4)
        refine lv_aload_n hx hb dL_law_32 rfl (lv_at hl 4 rfl) ?_
        refine lv_iload hx hb dL_law_33 (lv_at hl 0 rfl) ?_
        have h5 := hp.1
        replace hp := hp.2
        refine va_sld hx hb hX hbl hbA hS h5 dL_law_35 ?_
        refine lv_bipush (v := 31) hx hb dL_law_36 (by decide) ?_
        refine lv_iand hx hb dL_law_38 ?_
        rcases Decidable.em (((xs (v23_4).toNatClampNeg) &&& 31) = 0) with s0 | s0
        · replace he := he.trans (if_pos s0)
          replace hp := hp.1 s0
          refine lv_tableIn (off := 129) (tgt := 168) hx hb dL_law_39 (by rw [s0]; decide) (by rw [s0]; decide) (by rw [s0]; rfl) (by decide) ?_
          exact law_c0 hx hb hr hml hown hts hX hbl hlocks hbA hA hAle hN hXB hst hK ih _ _ _ _ _ _ _ _ _ _ _ _ _ _ _ _ _ _ _ _ _ _ _ _ _ _ _ _ _ _ _ _ _ kc ks (by omega) (by omega) hp he _ _ hP hD hS _ hl
        replace he := he.trans (if_neg s0)
        replace hp := hp.2 s0
        rcases Decidable.em (((xs (v23_4).toNatClampNeg) &&& 31) = 1) with s1 | s1
        · replace he := he.trans (if_pos s1)
          replace hp := hp.1 s1
          refine lv_tableIn (off := 204) (tgt := 243) hx hb dL_law_39 (by rw [s1]; decide) (by rw [s1]; decide) (by rw [s1]; rfl) (by decide) ?_
          exact law_c1 hx hb hr hml hown hts hX hbl hlocks hbA hA hAle hN hXB hst hK ih _ _ _ _ _ _ _ _ _ _ _ _ _ _ _ _ _ _ _ _ _ _ _ _ _ _ _ _ _ _ _ _ _ kc ks (by omega) (by omega) hp he _ _ hP hD hS _ hl
        replace he := he.trans (if_neg s1)
        replace hp := hp.2 s1
        rcases Decidable.em (((xs (v23_4).toNatClampNeg) &&& 31) = 2) with s2 | s2
        · replace he := he.trans (if_pos s2)
          replace hp := hp.1 s2
          refine lv_tableIn (off := 279) (tgt := 318) hx hb dL_law_39 (by rw [s2]; decide) (by rw [s2]; decide) (by rw [s2]; rfl) (by decide) ?_
          exact law_c2 hx hb hr hml hown hts hX hbl hlocks hbA hA hAle hN hXB hst hK ih _ _ _ _ _ _ _ _ _ _ _ _ _ _ _ _ _ _ _ _ _ _ _ _ _ _ _ _ _ _ _ _ _ kc ks (by omega) (by omega) hp he _ _ hP hD hS _ hl
        replace he := he.trans (if_neg s2)
        replace hp := hp.2 s2
        rcases Decidable.em (((xs (v23_4).toNatClampNeg) &&& 31) = 3) with s3 | s3
        · replace he := he.trans (if_pos s3)
          replace hp := hp.1 s3
          refine lv_tableIn (off := 354) (tgt := 393) hx hb dL_law_39 (by rw [s3]; decide) (by rw [s3]; decide) (by rw [s3]; rfl) (by decide) ?_
          exact law_c3 hx hb hr hml hown hts hX hbl hlocks hbA hA hAle hN hXB hst hK ih _ _ _ _ _ _ _ _ _ _ _ _ _ _ _ _ _ _ _ _ _ _ _ _ _ _ _ _ _ _ _ _ _ kc ks (by omega) (by omega) hp he _ _ hP hD hS _ hl
        replace he := he.trans (if_neg s3)
        replace hp := hp.2 s3
        rcases Decidable.em (((xs (v23_4).toNatClampNeg) &&& 31) = 4) with s4 | s4
        · replace he := he.trans (if_pos s4)
          replace hp := hp.1 s4
          refine lv_tableIn (off := 429) (tgt := 468) hx hb dL_law_39 (by rw [s4]; decide) (by rw [s4]; decide) (by rw [s4]; rfl) (by decide) ?_
          exact law_c4 hx hb hr hml hown hts hX hbl hlocks hbA hA hAle hN hXB hst hK ih _ _ _ _ _ _ _ _ _ _ _ _ _ _ _ _ _ _ _ _ _ _ _ _ _ _ _ _ _ _ _ _ _ kc ks (by omega) (by omega) hp he _ _ hP hD hS _ hl
        replace he := he.trans (if_neg s4)
        replace hp := hp.2 s4
        rcases Decidable.em (((xs (v23_4).toNatClampNeg) &&& 31) = 5) with s5 | s5
        · replace he := he.trans (if_pos s5)
          replace hp := hp.1 s5
          refine lv_tableIn (off := 485) (tgt := 524) hx hb dL_law_39 (by rw [s5]; decide) (by rw [s5]; decide) (by rw [s5]; rfl) (by decide) ?_
          exact law_c5 hx hb hr hml hown hts hX hbl hlocks hbA hA hAle hN hXB hst hK ih _ _ _ _ _ _ _ _ _ _ _ _ _ _ _ _ _ _ _ _ _ _ _ _ _ _ _ _ _ _ _ _ _ kc ks (by omega) (by omega) hp he _ _ hP hD hS _ hl
        replace he := he.trans (if_neg s5)
        replace hp := hp.2 s5
        rcases Decidable.em (((xs (v23_4).toNatClampNeg) &&& 31) = 6) with s6 | s6
        · replace he := he.trans (if_pos s6)
          replace hp := hp.1 s6
          refine lv_tableIn (off := 541) (tgt := 580) hx hb dL_law_39 (by rw [s6]; decide) (by rw [s6]; decide) (by rw [s6]; rfl) (by decide) ?_
          exact law_c6 hx hb hr hml hown hts hX hbl hlocks hbA hA hAle hN hXB hst hK ih _ _ _ _ _ _ _ _ _ _ _ _ _ _ _ _ _ _ _ _ _ _ _ _ _ _ _ _ _ _ _ _ _ kc ks (by omega) (by omega) hp he _ _ hP hD hS _ hl
        replace he := he.trans (if_neg s6)
        replace hp := hp.2 s6
        rcases Decidable.em (((xs (v23_4).toNatClampNeg) &&& 31) = 7) with s7 | s7
        · replace he := he.trans (if_pos s7)
          replace hp := hp.1 s7
          refine lv_tableIn (off := 554) (tgt := 593) hx hb dL_law_39 (by rw [s7]; decide) (by rw [s7]; decide) (by rw [s7]; rfl) (by decide) ?_
          exact law_c7 hx hb hr hml hown hts hX hbl hlocks hbA hA hAle hN hXB hst hK ih _ _ _ _ _ _ _ _ _ _ _ _ _ _ _ _ _ _ _ _ _ _ _ _ _ _ _ _ _ _ _ _ _ kc ks (by omega) (by omega) hp he _ _ hP hD hS _ hl
        replace he := he.trans (if_neg s7)
        replace hp := hp.2 s7
        rcases Decidable.em (((xs (v23_4).toNatClampNeg) &&& 31) = 8) with s8 | s8
        · replace he := he.trans (if_pos s8)
          replace hp := hp.1 s8
          refine lv_tableIn (off := 610) (tgt := 649) hx hb dL_law_39 (by rw [s8]; decide) (by rw [s8]; decide) (by rw [s8]; rfl) (by decide) ?_
          exact law_c8 hx hb hr hml hown hts hX hbl hlocks hbA hA hAle hN hXB hst hK ih _ _ _ _ _ _ _ _ _ _ _ _ _ _ _ _ _ _ _ _ _ _ _ _ _ _ _ _ _ _ _ _ _ kc ks (by omega) (by omega) hp he _ _ hP hD hS _ hl
        replace he := he.trans (if_neg s8)
        replace hp := hp.2 s8
        rcases Decidable.em (((xs (v23_4).toNatClampNeg) &&& 31) = 9) with s9 | s9
        · replace he := he.trans (if_pos s9)
          replace hp := hp.1 s9
          refine lv_tableIn (off := 666) (tgt := 705) hx hb dL_law_39 (by rw [s9]; decide) (by rw [s9]; decide) (by rw [s9]; rfl) (by decide) ?_
          exact law_c9 hx hb hr hml hown hts hX hbl hlocks hbA hA hAle hN hXB hst hK ih _ _ _ _ _ _ _ _ _ _ _ _ _ _ _ _ _ _ _ _ _ _ _ _ _ _ _ _ _ _ _ _ _ kc ks (by omega) (by omega) hp he _ _ hP hD hS _ hl
        replace he := he.trans (if_neg s9)
        replace hp := hp.2 s9
        rcases Decidable.em (((xs (v23_4).toNatClampNeg) &&& 31) = 10) with s10 | s10
        · replace he := he.trans (if_pos s10)
          replace hp := hp.1 s10
          refine lv_tableIn (off := 722) (tgt := 761) hx hb dL_law_39 (by rw [s10]; decide) (by rw [s10]; decide) (by rw [s10]; rfl) (by decide) ?_
          exact law_c10 hx hb hr hml hown hts hX hbl hlocks hbA hA hAle hN hXB hst hK ih _ _ _ _ _ _ _ _ _ _ _ _ _ _ _ _ _ _ _ _ _ _ _ _ _ _ _ _ _ _ _ _ _ kc ks (by omega) (by omega) hp he _ _ hP hD hS _ hl
        replace he := he.trans (if_neg s10)
        replace hp := hp.2 s10
        rcases Decidable.em (((xs (v23_4).toNatClampNeg) &&& 31) = 11) with s11 | s11
        · replace he := he.trans (if_pos s11)
          replace hp := hp.1 s11
          refine lv_tableIn (off := 778) (tgt := 817) hx hb dL_law_39 (by rw [s11]; decide) (by rw [s11]; decide) (by rw [s11]; rfl) (by decide) ?_
          exact law_c11 hx hb hr hml hown hts hX hbl hlocks hbA hA hAle hN hXB hst hK ih _ _ _ _ _ _ _ _ _ _ _ _ _ _ _ _ _ _ _ _ _ _ _ _ _ _ _ _ _ _ _ _ _ kc ks (by omega) (by omega) hp he _ _ hP hD hS _ hl
        replace he := he.trans (if_neg s11)
        replace hp := hp.2 s11
        rcases Decidable.em (((xs (v23_4).toNatClampNeg) &&& 31) = 12) with s12 | s12
        · replace he := he.trans (if_pos s12)
          replace hp := hp.1 s12
          refine lv_tableIn (off := 846) (tgt := 885) hx hb dL_law_39 (by rw [s12]; decide) (by rw [s12]; decide) (by rw [s12]; rfl) (by decide) ?_
          exact law_c12 hx hb hr hml hown hts hX hbl hlocks hbA hA hAle hN hXB hst hK ih _ _ _ _ _ _ _ _ _ _ _ _ _ _ _ _ _ _ _ _ _ _ _ _ _ _ _ _ _ _ _ _ _ kc ks (by omega) (by omega) hp he _ _ hP hD hS _ hl
        replace he := he.trans (if_neg s12)
        replace hp := hp.2 s12
        rcases Decidable.em (((xs (v23_4).toNatClampNeg) &&& 31) = 13) with s13 | s13
        · replace he := he.trans (if_pos s13)
          replace hp := hp.1 s13
          refine lv_tableIn (off := 859) (tgt := 898) hx hb dL_law_39 (by rw [s13]; decide) (by rw [s13]; decide) (by rw [s13]; rfl) (by decide) ?_
          exact law_c13 hx hb hr hml hown hts hX hbl hlocks hbA hA hAle hN hXB hst hK ih _ _ _ _ _ _ _ _ _ _ _ _ _ _ _ _ _ _ _ _ _ _ _ _ _ _ _ _ _ _ _ _ _ kc ks (by omega) (by omega) hp he _ _ hP hD hS _ hl
        replace he := he.trans (if_neg s13)
        replace hp := hp.2 s13
        rcases Decidable.em (((xs (v23_4).toNatClampNeg) &&& 31) = 14) with s14 | s14
        · replace he := he.trans (if_pos s14)
          replace hp := hp.1 s14
          refine lv_tableIn (off := 915) (tgt := 954) hx hb dL_law_39 (by rw [s14]; decide) (by rw [s14]; decide) (by rw [s14]; rfl) (by decide) ?_
          exact law_c14 hx hb hr hml hown hts hX hbl hlocks hbA hA hAle hN hXB hst hK ih _ _ _ _ _ _ _ _ _ _ _ _ _ _ _ _ _ _ _ _ _ _ _ _ _ _ _ _ _ _ _ _ _ kc ks (by omega) (by omega) hp he _ _ hP hD hS _ hl
        replace he := he.trans (if_neg s14)
        replace hp := hp.2 s14
        rcases Decidable.em (((xs (v23_4).toNatClampNeg) &&& 31) = 15) with s15 | s15
        · replace he := he.trans (if_pos s15)
          replace hp := hp.1 s15
          refine lv_tableIn (off := 971) (tgt := 1010) hx hb dL_law_39 (by rw [s15]; decide) (by rw [s15]; decide) (by rw [s15]; rfl) (by decide) ?_
          exact law_c15 hx hb hr hml hown hts hX hbl hlocks hbA hA hAle hN hXB hst hK ih _ _ _ _ _ _ _ _ _ _ _ _ _ _ _ _ _ _ _ _ _ _ _ _ _ _ _ _ _ _ _ _ _ kc ks (by omega) (by omega) hp he _ _ hP hD hS _ hl
        replace he := he.trans (if_neg s15)
        replace hp := hp.2 s15
        rcases Decidable.em (((xs (v23_4).toNatClampNeg) &&& 31) = 16) with s16 | s16
        · replace he := he.trans (if_pos s16)
          replace hp := hp.1 s16
          refine lv_tableIn (off := 1027) (tgt := 1066) hx hb dL_law_39 (by rw [s16]; decide) (by rw [s16]; decide) (by rw [s16]; rfl) (by decide) ?_
          exact law_c16 hx hb hr hml hown hts hX hbl hlocks hbA hA hAle hN hXB hst hK ih _ _ _ _ _ _ _ _ _ _ _ _ _ _ _ _ _ _ _ _ _ _ _ _ _ _ _ _ _ _ _ _ _ kc ks (by omega) (by omega) hp he _ _ hP hD hS _ hl
        replace he := he.trans (if_neg s16)
        replace hp := hp.2 s16
        rcases Decidable.em (((xs (v23_4).toNatClampNeg) &&& 31) = 17) with s17 | s17
        · replace he := he.trans (if_pos s17)
          replace hp := hp.1 s17
          refine lv_tableIn (off := 1083) (tgt := 1122) hx hb dL_law_39 (by rw [s17]; decide) (by rw [s17]; decide) (by rw [s17]; rfl) (by decide) ?_
          exact law_c17 hx hb hr hml hown hts hX hbl hlocks hbA hA hAle hN hXB hst hK ih _ _ _ _ _ _ _ _ _ _ _ _ _ _ _ _ _ _ _ _ _ _ _ _ _ _ _ _ _ _ _ _ _ kc ks (by omega) (by omega) hp he _ _ hP hD hS _ hl
        replace he := he.trans (if_neg s17)
        replace hp := hp.2 s17
        rcases Decidable.em (((xs (v23_4).toNatClampNeg) &&& 31) = 18) with s18 | s18
        · replace he := he.trans (if_pos s18)
          replace hp := hp.1 s18
          refine lv_tableIn (off := 1096) (tgt := 1135) hx hb dL_law_39 (by rw [s18]; decide) (by rw [s18]; decide) (by rw [s18]; rfl) (by decide) ?_
          exact law_c18 hx hb hr hml hown hts hX hbl hlocks hbA hA hAle hN hXB hst hK ih _ _ _ _ _ _ _ _ _ _ _ _ _ _ _ _ _ _ _ _ _ _ _ _ _ _ _ _ _ _ _ _ _ kc ks (by omega) (by omega) hp he _ _ hP hD hS _ hl
        replace he := he.trans (if_neg s18)
        replace hp := hp.2 s18
        rcases Decidable.em (((xs (v23_4).toNatClampNeg) &&& 31) = 19) with s19 | s19
        · replace he := he.trans (if_pos s19)
          replace hp := hp.1 s19
          refine lv_tableIn (off := 1152) (tgt := 1191) hx hb dL_law_39 (by rw [s19]; decide) (by rw [s19]; decide) (by rw [s19]; rfl) (by decide) ?_
          exact law_c19 hx hb hr hml hown hts hX hbl hlocks hbA hA hAle hN hXB hst hK ih _ _ _ _ _ _ _ _ _ _ _ _ _ _ _ _ _ _ _ _ _ _ _ _ _ _ _ _ _ _ _ _ _ kc ks (by omega) (by omega) hp he _ _ hP hD hS _ hl
        replace he := he.trans (if_neg s19)
        replace hp := hp.2 s19
        rcases Decidable.em (((xs (v23_4).toNatClampNeg) &&& 31) = 20) with s20 | s20
        · replace he := he.trans (if_pos s20)
          replace hp := hp.1 s20
          refine lv_tableIn (off := 1177) (tgt := 1216) hx hb dL_law_39 (by rw [s20]; decide) (by rw [s20]; decide) (by rw [s20]; rfl) (by decide) ?_
          exact law_c20 hx hb hr hml hown hts hX hbl hlocks hbA hA hAle hN hXB hst hK ih _ _ _ _ _ _ _ _ _ _ _ _ _ _ _ _ _ _ _ _ _ _ _ _ _ _ _ _ _ _ _ _ _ kc ks (by omega) (by omega) hp he _ _ hP hD hS _ hl
        replace he := he.trans (if_neg s20)
        replace hp := hp.2 s20
        rcases Decidable.em (((xs (v23_4).toNatClampNeg) &&& 31) = 21) with s21 | s21
        · replace he := he.trans (if_pos s21)
          replace hp := hp.1 s21
          refine lv_tableIn (off := 1202) (tgt := 1241) hx hb dL_law_39 (by rw [s21]; decide) (by rw [s21]; decide) (by rw [s21]; rfl) (by decide) ?_
          exact law_c21 hx hb hr hml hown hts hX hbl hlocks hbA hA hAle hN hXB hst hK ih _ _ _ _ _ _ _ _ _ _ _ _ _ _ _ _ _ _ _ _ _ _ _ _ _ _ _ _ _ _ _ _ _ kc ks (by omega) (by omega) hp he _ _ hP hD hS _ hl
        replace he := he.trans (if_neg s21)
        replace hp := hp.2 s21
        rcases Decidable.em (((xs (v23_4).toNatClampNeg) &&& 31) = 22) with s22 | s22
        · replace he := he.trans (if_pos s22)
          replace hp := hp.1 s22
          refine lv_tableIn (off := 1227) (tgt := 1266) hx hb dL_law_39 (by rw [s22]; decide) (by rw [s22]; decide) (by rw [s22]; rfl) (by decide) ?_
          exact law_c22 hx hb hr hml hown hts hX hbl hlocks hbA hA hAle hN hXB hst hK ih _ _ _ _ _ _ _ _ _ _ _ _ _ _ _ _ _ _ _ _ _ _ _ _ _ _ _ _ _ _ _ _ _ kc ks (by omega) (by omega) hp he _ _ hP hD hS _ hl
        replace he := he.trans (if_neg s22)
        replace hp := hp.2 s22
        rcases Decidable.em (((xs (v23_4).toNatClampNeg) &&& 31) = 23) with s23 | s23
        · replace he := he.trans (if_pos s23)
          replace hp := hp.1 s23
          refine lv_tableIn (off := 1290) (tgt := 1329) hx hb dL_law_39 (by rw [s23]; decide) (by rw [s23]; decide) (by rw [s23]; rfl) (by decide) ?_
          exact law_c23 hx hb hr hml hown hts hX hbl hlocks hbA hA hAle hN hXB hst hK ih _ _ _ _ _ _ _ _ _ _ _ _ _ _ _ _ _ _ _ _ _ _ _ _ _ _ _ _ _ _ _ _ _ kc ks (by omega) (by omega) hp he _ _ hP hD hS _ hl
        replace he := he.trans (if_neg s23)
        replace hp := hp.2 s23
        rcases Decidable.em (((xs (v23_4).toNatClampNeg) &&& 31) = 24) with s24 | s24
        · replace he := he.trans (if_pos s24)
          replace hp := hp.1 s24
          refine lv_tableIn (off := 1303) (tgt := 1342) hx hb dL_law_39 (by rw [s24]; decide) (by rw [s24]; decide) (by rw [s24]; rfl) (by decide) ?_
          exact law_c24 hx hb hr hml hown hts hX hbl hlocks hbA hA hAle hN hXB hst hK ih _ _ _ _ _ _ _ _ _ _ _ _ _ _ _ _ _ _ _ _ _ _ _ _ _ _ _ _ _ _ _ _ _ kc ks (by omega) (by omega) hp he _ _ hP hD hS _ hl
        replace he := he.trans (if_neg s24)
        replace hp := hp.2 s24
        rcases Decidable.em (((xs (v23_4).toNatClampNeg) &&& 31) = 25) with s25 | s25
        · replace he := he.trans (if_pos s25)
          replace hp := hp.1 s25
          refine lv_tableIn (off := 1359) (tgt := 1398) hx hb dL_law_39 (by rw [s25]; decide) (by rw [s25]; decide) (by rw [s25]; rfl) (by decide) ?_
          exact law_c25 hx hb hr hml hown hts hX hbl hlocks hbA hA hAle hN hXB hst hK ih _ _ _ _ _ _ _ _ _ _ _ _ _ _ _ _ _ _ _ _ _ _ _ _ _ _ _ _ _ _ _ _ _ kc ks (by omega) (by omega) hp he _ _ hP hD hS _ hl
        replace he := he.trans (if_neg s25)
        replace hp := hp.2 s25
        rcases Decidable.em (((xs (v23_4).toNatClampNeg) &&& 31) = 26) with s26 | s26
        · replace he := he.trans (if_pos s26)
          replace hp := hp.1 s26
          refine lv_tableIn (off := 1415) (tgt := 1454) hx hb dL_law_39 (by rw [s26]; decide) (by rw [s26]; decide) (by rw [s26]; rfl) (by decide) ?_
          exact law_c26 hx hb hr hml hown hts hX hbl hlocks hbA hA hAle hN hXB hst hK ih _ _ _ _ _ _ _ _ _ _ _ _ _ _ _ _ _ _ _ _ _ _ _ _ _ _ _ _ _ _ _ _ _ kc ks (by omega) (by omega) hp he _ _ hP hD hS _ hl
        replace he := he.trans (if_neg s26)
        replace hp := hp.2 s26
        rcases Decidable.em (((xs (v23_4).toNatClampNeg) &&& 31) = 27) with s27 | s27
        · replace he := he.trans (if_pos s27)
          replace hp := hp.1 s27
          refine lv_tableIn (off := 1428) (tgt := 1467) hx hb dL_law_39 (by rw [s27]; decide) (by rw [s27]; decide) (by rw [s27]; rfl) (by decide) ?_
          exact law_c27 hx hb hr hml hown hts hX hbl hlocks hbA hA hAle hN hXB hst hK ih _ _ _ _ _ _ _ _ _ _ _ _ _ _ _ _ _ _ _ _ _ _ _ _ _ _ _ _ _ _ _ _ _ kc ks (by omega) (by omega) hp he _ _ hP hD hS _ hl
        replace he := he.trans (if_neg s27)
        replace hp := hp.2 s27
        rcases Decidable.em (((xs (v23_4).toNatClampNeg) &&& 31) = 28) with s28 | s28
        · replace he := he.trans (if_pos s28)
          replace hp := hp.1 s28
          refine lv_tableIn (off := 1484) (tgt := 1523) hx hb dL_law_39 (by rw [s28]; decide) (by rw [s28]; decide) (by rw [s28]; rfl) (by decide) ?_
          exact law_c28 hx hb hr hml hown hts hX hbl hlocks hbA hA hAle hN hXB hst hK ih _ _ _ _ _ _ _ _ _ _ _ _ _ _ _ _ _ _ _ _ _ _ _ _ _ _ _ _ _ _ _ _ _ kc ks (by omega) (by omega) hp he _ _ hP hD hS _ hl
        replace he := he.trans (if_neg s28)
        replace hp := hp.2 s28
        refine lv_tableOut (tgt := 1579) hx hb dL_law_39 (k_switch s0 s1 s2 s3 s4 s5 s6 s7 s8 s9 s10 s11 s12 s13 s14 s15 s16 s17 s18 s19 s20 s21 s22 s23 s24 s25 s26 s27 s28) (by decide) ?_
        exact law_cd hx hb hr hml hown hts hX hbl hlocks hbA hA hAle hN hXB hst hK ih _ _ _ _ _ _ _ _ _ _ _ _ _ _ _ _ _ _ _ _ _ _ _ _ _ _ _ _ _ _ _ _ _ kc ks (by omega) (by omega) hp he _ _ hP hD hS _ hl
  exact loop3 514 (0 : Int32) (0 : Int32) (0 : Int32) u1_0 u1_1 u1_2 u1_3 u1_4 u1_5 u1_6 u1_7 u1_8 u1_9 u1_10 u1_11 u1_12 (0 : Int32) (0 : Int32) (0 : Int32) (0 : Int32) (0 : Int32) u2_0 u2_1 u2_2 u2_3 u2_4 u2_5 u2_6 u2_7 u2_8 u2_9 u2_10 (fun _ => 0) 28 3782 (by omega) (by omega) hp he _ _ hP hD hS _ (lv_sub hl [0, 1, 2, 3, 4] rfl)
