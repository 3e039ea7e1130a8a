abbrev rm_L_causes : Room := { frames := 24, cells := 1095, slots := 6281, locals := 698 }
abbrev Q_L_causes (D : va_G) (cI : ClassId) (x0 g0 g1 g2 g3 g4 l0 l1 l2 l3 l4 l5 t0 t1 t2 : Nat) (xr : Int32) (xt : Int32) (gn : AA) (gu : AA) (gb : AA) (ga : AA) (lc : Int32) (lk : AA) (ln : AA) (lt : AA) (ll : AA) (lr : AA) (tw : Int32) (tn : AA) (tt : AA) (A : Nat → Prop) : Array Value → State → Outcome → State → Prop := va_Qi (S := Unit) (fun r u => f_L_causes xr gn gu gb ga tn = r ∧ (r = 0 ∨ r = 1)) (fun u t => QW D [(cI, .int)] A (W_X4 cI x0 g0 g1 g2 g3 g4 l0 l1 l2 l3 l4 l5 t0 t1 t2 xr xt gn gu gb ga lc lk ln lt ll lr tw tn tt) t) A
set_option maxHeartbeats 60000000 in
set_option maxRecDepth 100000 in
theorem c_L_causes (l : Launch)  (D : va_G) (cI : ClassId) (x0 g0 g1 g2 g3 g4 l0 l1 l2 l3 l4 l5 t0 t1 t2 : Nat) (xr : Int32) (xt : Int32) (gn : AA) (gu : AA) (gb : AA) (ga : AA) (lc : Int32) (lk : AA) (ln : AA) (lt : AA) (ll : AA) (lr : AA) (tw : Int32) (tn : AA) (tt : AA) (sz : Nat) (hp : p_L_causes xr gn gu gb ga tn) (hst : l.stackTraces = false) : Met l yL_causes wsL_causes rm_L_causes (va_Pc [.ref x0] (PX D [(cI, .int)] sz (W_X4 cI x0 g0 g1 g2 g3 g4 l0 l1 l2 l3 l4 l5 t0 t1 t2 xr xt gn gu gb ga lc lk ln lt ll lr tw tn tt))) (Q_L_causes D cI x0 g0 g1 g2 g3 g4 l0 l1 l2 l3 l4 l5 t0 t1 t2 xr xt gn gu gb ga lc lk ln lt ll lr tw tn tt (va_A (W_X4 cI x0 g0 g1 g2 g3 g4 l0 l1 l2 l3 l4 l5 t0 t1 t2 xr xt gn gu gb ga lc lk ln lt ll lr tw tn tt) sz)) 1095 6281 (va_A (W_X4 cI x0 g0 g1 g2 g3 g4 l0 l1 l2 l3 l4 l5 t0 t1 t2 xr xt gn gu gb ga lc lk ln lt ll lr tw tn tt) sz) := by
  refine Met.ofW (cc := cL_causes) (maxL := 16) (ret := (some .boolean)) (by decide) rfl ?_
  intro p e s m args below meth c s₁ B hml hv
  obtain ⟨rfl, ⟨hsz, hP, hK, hD0, hN⟩, hXB⟩ := hv
  have hx := B.exec
  have hb := B.bytes
  have hr := B.returns
  have hts := atoms_spec (ws := wsL_causes) B.pre
  have hown : s.vm.findClass RL = some m.cls := findClass_of_methodNamed B.named
  have hlocks := B.notSynchronized
  subst hsz
  have hD := hD0.self (sz := s.heap.size)
  generalize hAe : va_A (W_X4 cI x0 g0 g1 g2 g3 g4 l0 l1 l2 l3 l4 l5 t0 t1 t2 xr xt gn gu gb ga lc lk ln lt ll lr tw tn tt) s.heap.size = A at hD hXB ⊢
  have hA : ∀ q : Nat, s.heap.size ≤ q → A q := fun q h => by rw [← hAe]; exact Or.inr h
  have hS : va_S A s.heap s.heap [] := va_S.rf
  have hl := lv_entry ([.ref x0]) (n := 16) (Nat.le_of_ble_eq_true rfl)
  rw [lg_entry_eq]
  generalize (lg_sl ([.ref x0]) ++ List.replicate (16 - (lg_sl ([.ref x0])).length) Slot.unset).toArray = ls at hl ⊢
  have hl : lv_has ls 16 [(0, .ref x0)] := hl
  have he := f_L_causes.eq_1 xr gn gu gb ga tn
  replace hp := Eq.mp (p_L_causes.eq_1 ..) hp
  refine lv_bipush (v := 14) hx hb dL_causes_0 (by decide) ?_
  refine k_newI (N' := 14) hx hb (hts (.arrayClass .int) (by decide +kernel)) hK hP hD hS hA (by decide) (by decide) (by decide) (Nat.le_of_ble_eq_true rfl) (Nat.le_of_ble_eq_true rfl) dL_causes_2 (fun q2 H hP hD hS => ?_)
  have hP : va_P D vwCl ((W_X4 cI x0 g0 g1 g2 g3 g4 l0 l1 l2 l3 l4 l5 t0 t1 t2 xr xt gn gu gb ga lc lk ln lt ll lr tw tn tt) ++ (W_A cI q2 (fun _ => 0))) H := hP
  have hD : va_D A ((W_X4 cI x0 g0 g1 g2 g3 g4 l0 l1 l2 l3 l4 l5 t0 t1 t2 xr xt gn gu gb ga lc lk ln lt ll lr tw tn tt) ++ (W_A cI q2 (fun _ => 0))) := hD
  refine lv_astore_n (lv' := [(1, .ref q2), (0, .ref x0)]) hx hb dL_causes_4 rfl hl (by decide) rfl (fun ls hl => ?_)
  refine lv_iconst (v := 0) hx hb dL_causes_5 (by decide) ?_
  refine lv_istore_n (lv' := [(2, .int 0), (1, .ref q2), (0, .ref x0)]) hx hb dL_causes_6 rfl hl (by decide) rfl (fun ls hl => ?_)
  refine lv_iconst (v := 0) hx hb dL_causes_7 (by decide) ?_
  refine lv_istore_n (lv' := [(3, .int 0), (2, .int 0), (1, .ref q2), (0, .ref x0)]) hx hb dL_causes_8 rfl hl (by decide) rfl (fun ls hl => ?_)
  refine lv_iconst (v := 1) hx hb dL_causes_9 (by decide) ?_
  refine lv_istore (lv' := [(4, .int 1), (3, .int 0), (2, .int 0), (1, .ref q2), (0, .ref x0)]) hx hb dL_causes_10 hl (by decide) rfl (fun ls hl => ?_)
  refine lv_iconst (v := 0) hx hb dL_causes_12 (by decide) ?_
  refine lv_istore (lv' := [(5, .int 0), (4, .int 1), (3, .int 0), (2, .int 0), (1, .ref q2), (0, .ref x0)]) hx hb dL_causes_13 hl (by decide) rfl (fun ls hl => ?_)
  obtain ⟨⟨r1_v15_3, r1_v15_5, r1_c_q2_15⟩, hL1⟩ : ∃ z, z = f_L_causes_L15 gb tn 15 (0 : Int32) (0 : Int32) (fun _ => 0) := ⟨_, rfl⟩
  rw [← hL1] at he
  try dsimp only at he
  have hpL1 := hp.1
  replace hp := hp.2 _ _ _ hL1.symm
  have kont1 : ∀ (x1_v15_3 : Int32) (x1_v15_5 : Int32) (x1_c_q2_15 : AA), (r1_v15_3, r1_v15_5, r1_c_q2_15) = (x1_v15_3, x1_v15_5, x1_c_q2_15) → ∀ (H : Heap) (locs : List Loc), va_P D vwCl ((W_X4 cI x0 g0 g1 g2 g3 g4 l0 l1 l2 l3 l4 l5 t0 t1 t2 xr xt gn gu gb ga lc lk ln lt ll lr tw tn tt) ++ (W_A cI q2 x1_c_q2_15)) H → va_D A ((W_X4 cI x0 g0 g1 g2 g3 g4 l0 l1 l2 l3 l4 l5 t0 t1 t2 xr xt gn gu gb ga lc lk ln lt ll lr tw tn tt) ++ (W_A cI q2 x1_c_q2_15)) → va_S A s.heap H locs → ∀ ls : Array Slot, lv_has ls 16 [(4, .int 1), (3, .int x1_v15_3), (2, .int 0), (1, .ref q2), (0, .ref x0)] → W p l e (headSpec wsL_causes rm_L_causes).room s m ([.ref x0] : List Value).toArray below meth c H locs 466 2804 (MQ below (Q_L_causes D cI x0 g0 g1 g2 g3 g4 l0 l1 l2 l3 l4 l5 t0 t1 t2 xr xt gn gu gb ga lc lk ln lt ll lr tw tn tt A) ([.ref x0] : List Value).toArray s 1095 6281 A) (F0 m 104 ls []) := by
    intro x1_v15_3 x1_v15_5 x1_c_q2_15 hxe H locs hP hD hS ls hl
    simp only [Prod.mk.injEq] at hxe
    obtain ⟨rfl, rfl, rfl⟩ := hxe
    refine lv_iconst (v := 0) hx hb dL_causes_104 (by decide) ?_
    refine lv_istore (lv' := [(5, .int 0), (4, .int 1), (3, .int r1_v15_3), (2, .int 0), (1, .ref q2), (0, .ref x0)]) hx hb dL_causes_105 hl (by decide) rfl (fun ls hl => ?_)
    obtain ⟨⟨r15_v107_2, r15_v107_4, r15_v107_5⟩, hL15⟩ : ∃ z, z = f_L_causes_L107 xr gn gu r1_v15_3 15 (0 : Int32) (1 : Int32) (0 : Int32) := ⟨_, rfl⟩
    rw [← hL15] at he
    try dsimp only at he
    have hpL15 := hp.1
    replace hp := hp.2 _ _ _ hL15.symm
    have kont15 : ∀ (x15_v107_2 : Int32) (x15_v107_4 : Int32) (x15_v107_5 : Int32), (r15_v107_2, r15_v107_4, r15_v107_5) = (x15_v107_2, x15_v107_4, x15_v107_5) → ∀ (H : Heap) (locs : List Loc), va_P D vwCl ((W_X4 cI x0 g0 g1 g2 g3 g4 l0 l1 l2 l3 l4 l5 t0 t1 t2 xr xt gn gu gb ga lc lk ln lt ll lr tw tn tt) ++ (W_A cI q2 r1_c_q2_15)) H → va_D A ((W_X4 cI x0 g0 g1 g2 g3 g4 l0 l1 l2 l3 l4 l5 t0 t1 t2 xr xt gn gu gb ga lc lk ln lt ll lr tw tn tt) ++ (W_A cI q2 r1_c_q2_15)) → va_S A s.heap H locs → ∀ ls : Array Slot, lv_has ls 16 [(4, .int x15_v107_4), (3, .int r1_v15_3), (2, .int x15_v107_2), (1, .ref q2), (0, .ref x0)] → W p l e (headSpec wsL_causes rm_L_causes).room s m ([.ref x0] : List Value).toArray below meth c H locs 946 5639 (MQ below (Q_L_causes D cI x0 g0 g1 g2 g3 g4 l0 l1 l2 l3 l4 l5 t0 t1 t2 xr xt gn gu gb ga lc lk ln lt ll lr tw tn tt A) ([.ref x0] : List Value).toArray s 1095 6281 A) (F0 m 243 ls []) := by
      intro x15_v107_2 x15_v107_4 x15_v107_5 hxe H locs hP hD hS ls hl
      simp only [Prod.mk.injEq] at hxe
      obtain ⟨rfl, rfl, rfl⟩ := hxe
      refine lv_iconst (v := 0) hx hb dL_causes_243 (by decide) ?_
      refine lv_istore (lv' := [(5, .int 0), (4, .int r15_v107_4), (3, .int r1_v15_3), (2, .int r15_v107_2), (1, .ref q2), (0, .ref x0)]) hx hb dL_causes_244 hl (by decide) rfl (fun ls hl => ?_)
      refine lv_iconst (v := (-1)) hx hb dL_causes_246 (by decide) ?_
      refine lv_istore (lv' := [(6, .int (-1)), (5, .int 0), (4, .int r15_v107_4), (3, .int r1_v15_3), (2, .int r15_v107_2), (1, .ref q2), (0, .ref x0)]) hx hb dL_causes_247 hl (by decide) rfl (fun ls hl => ?_)
      refine lv_iconst (v := 0) hx hb dL_causes_249 (by decide) ?_
      refine lv_istore (lv' := [(7, .int 0), (6, .int (-1)), (5, .int 0), (4, .int r15_v107_4), (3, .int r1_v15_3), (2, .int r15_v107_2), (1, .ref q2), (0, .ref x0)]) hx hb dL_causes_250 hl (by decide) rfl (fun ls hl => ?_)
      obtain ⟨⟨r34_v252_4, r34_v252_5, r34_v252_6, r34_v252_7⟩, hL34⟩ : ∃ z, z = f_L_causes_L252 xr gu gb ga 15 r15_v107_4 (0 : Int32) ((-1) : Int32) (0 : Int32) := ⟨_, rfl⟩
      rw [← hL34] at he
      try dsimp only at he
      have hpL34 := hp.1
      replace hp := hp.2 _ _ _ _ hL34.symm
      have kont34 : ∀ (x34_v252_4 : Int32) (x34_v252_5 : Int32) (x34_v252_6 : Int32) (x34_v252_7 : Int32), (r34_v252_4, r34_v252_5, r34_v252_6, r34_v252_7) = (x34_v252_4, x34_v252_5, x34_v252_6, x34_v252_7) → ∀ (H : Heap) (locs : List Loc), va_P D vwCl ((W_X4 cI x0 g0 g1 g2 g3 g4 l0 l1 l2 l3 l4 l5 t0 t1 t2 xr xt gn gu gb ga lc lk ln lt ll lr tw tn tt) ++ (W_A cI q2 r1_c_q2_15)) H → va_D A ((W_X4 cI x0 g0 g1 g2 g3 g4 l0 l1 l2 l3 l4 l5 t0 t1 t2 xr xt gn gu gb ga lc lk ln lt ll lr tw tn tt) ++ (W_A cI q2 r1_c_q2_15)) → va_S A s.heap H locs → ∀ ls : Array Slot, lv_has ls 16 [(5, .int x34_v252_5), (4, .int x34_v252_4), (3, .int r1_v15_3), (2, .int r15_v107_2), (1, .ref q2), (0, .ref x0)] → W p l e (headSpec wsL_causes rm_L_causes).room s m ([.ref x0] : List Value).toArray below meth c H locs 1021 5954 (MQ below (Q_L_causes D cI x0 g0 g1 g2 g3 g4 l0 l1 l2 l3 l4 l5 t0 t1 t2 xr xt gn gu gb ga lc lk ln lt ll lr tw tn tt A) ([.ref x0] : List Value).toArray s 1095 6281 A) (F0 m 325 ls []) := by
        intro x34_v252_4 x34_v252_5 x34_v252_6 x34_v252_7 hxe H locs hP hD hS ls hl
        simp only [Prod.mk.injEq] at hxe
        obtain ⟨rfl, rfl, rfl, rfl⟩ := hxe
        refine lv_iload hx hb dL_causes_325 (lv_at hl 1 rfl) ?_
        obtain ⟨j44, hJ44⟩ : ∃ z : Int32, z = (if r34_v252_4 = 0 then (0 : Int32) else (if (f_L_cause xr gu gb ga (f_X4_causes xr gu gb ga)) = (-101) then (if (f_L_tried xr gu gb (f_X4_causes xr gu gb ga)) = (-101) then (if (f_L_cause xr gu gb ga ((-1) : Int32)) = (-101) then (if (f_L_isBest r1_c_q2_15 r15_v107_2 r1_v15_3 r34_v252_5) = 0 then (0 : Int32) else (1 : Int32)) else (0 : Int32)) else (0 : Int32)) else (0 : Int32))) := ⟨_, rfl⟩
        rw [← hJ44] at he
        try dsimp only at he
        have hpJ44 := hp.1
        replace hp := hp.2 _  hJ44.symm
        have kont44 : (j44 = 0 ∨ j44 = 1) → ∀ (H : Heap) (locs : List Loc), va_P D vwCl ((W_X4 cI x0 g0 g1 g2 g3 g4 l0 l1 l2 l3 l4 l5 t0 t1 t2 xr xt gn gu gb ga lc lk ln lt ll lr tw tn tt) ++ (W_A cI q2 r1_c_q2_15)) H → va_D A ((W_X4 cI x0 g0 g1 g2 g3 g4 l0 l1 l2 l3 l4 l5 t0 t1 t2 xr xt gn gu gb ga lc lk ln lt ll lr tw tn tt) ++ (W_A cI q2 r1_c_q2_15)) → va_S A s.heap H locs → ∀ ls : Array Slot, lv_has ls 16 [(5, .int r34_v252_5), (3, .int r1_v15_3), (2, .int r15_v107_2), (1, .ref q2), (0, .ref x0)] → W p l e (headSpec wsL_causes rm_L_causes).room s m ([.ref x0] : List Value).toArray below meth c H locs 1029 5987 (MQ below (Q_L_causes D cI x0 g0 g1 g2 g3 g4 l0 l1 l2 l3 l4 l5 t0 t1 t2 xr xt gn gu gb ga lc lk ln lt ll lr tw tn tt A) ([.ref x0] : List Value).toArray s 1095 6281 A) (F0 m 382 ls [.int j44]) := by
          intro hb44 H locs hP hD hS ls hl
          refine lv_istore (lv' := [(4, .int j44), (5, .int r34_v252_5), (3, .int r1_v15_3), (2, .int r15_v107_2), (1, .ref q2), (0, .ref x0)]) hx hb dL_causes_382 hl (by decide) rfl (fun ls hl => ?_)
          refine lv_iload_n hx hb dL_causes_384 rfl (lv_at hl 2 rfl) ?_
          refine lv_istore (lv' := [(7, .int r1_v15_3), (4, .int j44), (5, .int r34_v252_5), (3, .int r1_v15_3), (2, .int r15_v107_2), (1, .ref q2), (0, .ref x0)]) hx hb dL_causes_385 hl (by decide) rfl (fun ls hl => ?_)
          refine lv_aload_n hx hb dL_causes_387 rfl (lv_at hl 6 rfl) ?_
          have hq56 := hp.1
          replace hp := hp.2
          refine k_calli (S := Unit) (wc := (W_X4 cI x0 g0 g1 g2 g3 g4 l0 l1 l2 l3 l4 l5 t0 t1 t2 xr xt gn gu gb ga lc lk ln lt ll lr tw tn tt)) (wr := (W_A cI q2 r1_c_q2_15)) (w1 := fun u => (W_X4 cI x0 g0 g1 g2 g3 g4 l0 l1 l2 l3 l4 l5 t0 t1 t2 xr xt gn gu gb ga lc lk ln lt ll lr tw tn tt)) (fun u => ((W_X4 cI x0 g0 g1 g2 g3 g4 l0 l1 l2 l3 l4 l5 t0 t1 t2 xr xt gn gu gb ga lc lk ln lt ll lr tw tn tt) ++ (W_A cI q2 r1_c_q2_15))) hP hK hD hN hS hA [0, 1, 2, 3, 4, 5, 6, 7, 8, 9, 10, 11, 12, 13, 14] [15] rfl rfl (by decide) (by decide) (by decide) [1, 2, 3, 4, 5, 6, 7, 8, 9, 10, 11, 12, 13, 14, 15, 0] (by decide) (fun _ => rfl) (fun hg => va_runV (As := []) (rest := []) ⟨hx, hb, hml, hown, hts⟩ (c_X4_greedyCauses l D cI x0 g0 g1 g2 g3 g4 l0 l1 l2 l3 l4 l5 t0 t1 t2 xr xt gn gu gb ga lc lk ln lt ll lr tw tn tt _ hq56) (cwV 0 hts gL_causes_X4_greedyCauses rfl rfl rfl (by decide +kernel) ⟨Nat.le_of_ble_eq_true rfl, Nat.le_of_ble_eq_true rfl⟩) ⟨PW.blind, va_recv hK hP (ci := 4) (q0 := 0) rfl rfl, fun U hU hW => ⟨rfl, hg U hU hW⟩⟩ rfl rfl hl.1 rfl (lv_room (Nat.le_of_ble_eq_true rfl)) dL_causes_388 ⟨Nat.le_of_ble_eq_true rfl, Nat.le_of_ble_eq_true rfl⟩) (fun r56 u H locs hw hP hD hS => ?_)
          subst hw
          refine lv_istore (lv' := [(8, .int (f_X4_greedyCauses xr gu ga)), (7, .int r1_v15_3), (4, .int j44), (5, .int r34_v252_5), (3, .int r1_v15_3), (2, .int r15_v107_2), (1, .ref q2), (0, .ref x0)]) hx hb dL_causes_391 hl (by decide) rfl (fun ls hl => ?_)
          refine lv_iconst (v := 0) hx hb dL_causes_393 (by decide) ?_
          refine lv_istore (lv' := [(9, .int 0), (8, .int (f_X4_greedyCauses xr gu ga)), (7, .int r1_v15_3), (4, .int j44), (5, .int r34_v252_5), (3, .int r1_v15_3), (2, .int r15_v107_2), (1, .ref q2), (0, .ref x0)]) hx hb dL_causes_394 hl (by decide) rfl (fun ls hl => ?_)
          obtain ⟨⟨r57_v396_4, r57_v396_7, r57_v396_9⟩, hL57⟩ : ∃ z, z = f_L_causes_L396 xr gu ga r1_v15_3 r1_c_q2_15 r15_v107_2 15 j44 r1_v15_3 (0 : Int32) := ⟨_, rfl⟩
          rw [← hL57] at he
          try dsimp only at he
          have hpL57 := hp.1
          replace hp := hp.2 _ _ _ hL57.symm
          have kont57 : ∀ (x57_v396_4 : Int32) (x57_v396_7 : Int32) (x57_v396_9 : Int32), (r57_v396_4, r57_v396_7, r57_v396_9) = (x57_v396_4, x57_v396_7, x57_v396_9) → ∀ (H : Heap) (locs : List Loc), va_P D vwCl ((W_X4 cI x0 g0 g1 g2 g3 g4 l0 l1 l2 l3 l4 l5 t0 t1 t2 xr xt gn gu gb ga lc lk ln lt ll lr tw tn tt) ++ (W_A cI q2 r1_c_q2_15)) H → va_D A ((W_X4 cI x0 g0 g1 g2 g3 g4 l0 l1 l2 l3 l4 l5 t0 t1 t2 xr xt gn gu gb ga lc lk ln lt ll lr tw tn tt) ++ (W_A cI q2 r1_c_q2_15)) → va_S A s.heap H locs → ∀ ls : Array Slot, lv_has ls 16 [(8, .int (f_X4_greedyCauses xr gu ga)), (7, .int x57_v396_7), (4, .int x57_v396_4), (5, .int r34_v252_5), (3, .int r1_v15_3), (1, .ref q2), (0, .ref x0)] → W p l e (headSpec wsL_causes rm_L_causes).room s m ([.ref x0] : List Value).toArray below meth c H locs 1060 6125 (MQ below (Q_L_causes D cI x0 g0 g1 g2 g3 g4 l0 l1 l2 l3 l4 l5 t0 t1 t2 xr xt gn gu gb ga lc lk ln lt ll lr tw tn tt A) ([.ref x0] : List Value).toArray s 1095 6281 A) (F0 m 613 ls []) := by
            intro x57_v396_4 x57_v396_7 x57_v396_9 hxe H locs hP hD hS ls hl
            simp only [Prod.mk.injEq] at hxe
            obtain ⟨rfl, rfl, rfl⟩ := hxe
            refine lv_iload hx hb dL_causes_613 (lv_at hl 2 rfl) ?_
            obtain ⟨j92, hJ92⟩ : ∃ z : Int32, z = (if r57_v396_4 = 0 then (0 : Int32) else (if r57_v396_7 = 0 then (if (f_X4_greedyCauses xr gu ga) < (f_X4_causes xr gu gb ga) then (0 : Int32) else (if (f_L_greedy xr gu ga (f_X4_greedyCauses xr gu ga)) = (-101) then (if (f_L_greedy xr gu ga ((-1) : Int32)) = (-101) then (1 : Int32) else (0 : Int32)) else (0 : Int32))) else (0 : Int32))) := ⟨_, rfl⟩
            rw [← hJ92] at he
            try dsimp only at he
            have hpJ92 := hp.1
            replace hp := hp.2 _  hJ92.symm
            have kont92 : (j92 = 0 ∨ j92 = 1) → ∀ (H : Heap) (locs : List Loc), va_P D vwCl ((W_X4 cI x0 g0 g1 g2 g3 g4 l0 l1 l2 l3 l4 l5 t0 t1 t2 xr xt gn gu gb ga lc lk ln lt ll lr tw tn tt) ++ (W_A cI q2 r1_c_q2_15)) H → va_D A ((W_X4 cI x0 g0 g1 g2 g3 g4 l0 l1 l2 l3 l4 l5 t0 t1 t2 xr xt gn gu gb ga lc lk ln lt ll lr tw tn tt) ++ (W_A cI q2 r1_c_q2_15)) → va_S A s.heap H locs → ∀ ls : Array Slot, lv_has ls 16 [(5, .int r34_v252_5), (3, .int r1_v15_3), (1, .ref q2), (0, .ref x0)] → W p l e (headSpec wsL_causes rm_L_causes).room s m ([.ref x0] : List Value).toArray below meth c H locs 1065 6146 (MQ below (Q_L_causes D cI x0 g0 g1 g2 g3 g4 l0 l1 l2 l3 l4 l5 t0 t1 t2 xr xt gn gu gb ga lc lk ln lt ll lr tw tn tt A) ([.ref x0] : List Value).toArray s 1095 6281 A) (F0 m 658 ls [.int j92]) := by
              intro hb92 H locs hP hD hS ls hl
              refine lv_istore (lv' := [(4, .int j92), (5, .int r34_v252_5), (3, .int r1_v15_3), (1, .ref q2), (0, .ref x0)]) hx hb dL_causes_658 hl (by decide) rfl (fun ls hl => ?_)
              refine lv_iconst (v := 0) hx hb dL_causes_660 (by decide) ?_
              refine lv_istore (lv' := [(9, .int 0), (4, .int j92), (5, .int r34_v252_5), (3, .int r1_v15_3), (1, .ref q2), (0, .ref x0)]) hx hb dL_causes_661 hl (by decide) rfl (fun ls hl => ?_)
              obtain ⟨⟨r101_v663_4, r101_v663_9⟩, hL101⟩ : ∃ z, z = f_L_causes_L663 xr gu gb ga r1_v15_3 r1_c_q2_15 r34_v252_5 15 j92 (0 : Int32) := ⟨_, rfl⟩
              rw [← hL101] at he
              try dsimp only at he
              have hpL101 := hp.1
              replace hp := hp.2 _ _ hL101.symm
              have kont101 : ∀ (x101_v663_4 : Int32) (x101_v663_9 : Int32), (r101_v663_4, r101_v663_9) = (x101_v663_4, x101_v663_9) → ∀ (H : Heap) (locs : List Loc), va_P D vwCl ((W_X4 cI x0 g0 g1 g2 g3 g4 l0 l1 l2 l3 l4 l5 t0 t1 t2 xr xt gn gu gb ga lc lk ln lt ll lr tw tn tt) ++ (W_A cI q2 r1_c_q2_15)) H → va_D A ((W_X4 cI x0 g0 g1 g2 g3 g4 l0 l1 l2 l3 l4 l5 t0 t1 t2 xr xt gn gu gb ga lc lk ln lt ll lr tw tn tt) ++ (W_A cI q2 r1_c_q2_15)) → va_S A s.heap H locs → ∀ ls : Array Slot, lv_has ls 16 [(4, .int x101_v663_4)] → W p l e (headSpec wsL_causes rm_L_causes).room s m ([.ref x0] : List Value).toArray below meth c H locs 1095 6281 (MQ below (Q_L_causes D cI x0 g0 g1 g2 g3 g4 l0 l1 l2 l3 l4 l5 t0 t1 t2 xr xt gn gu gb ga lc lk ln lt ll lr tw tn tt A) ([.ref x0] : List Value).toArray s 1095 6281 A) (F0 m 760 ls []) := by
                intro x101_v663_4 x101_v663_9 hxe H locs hP hD hS ls hl
                simp only [Prod.mk.injEq] at hxe
                obtain ⟨rfl, rfl⟩ := hxe
                refine lv_iload hx hb dL_causes_760 (lv_at hl 0 rfl) ?_
                have hz9 := hp.1
                replace hp := hp.2
                have hP : va_P D vwCl (W_X4 cI x0 g0 g1 g2 g3 g4 l0 l1 l2 l3 l4 l5 t0 t1 t2 xr xt gn gu gb ga lc lk ln lt ll lr tw tn tt) H := hP.sub [0, 1, 2, 3, 4, 5, 6, 7, 8, 9, 10, 11, 12, 13, 14] rfl
                have hD : va_D A (W_X4 cI x0 g0 g1 g2 g3 g4 l0 l1 l2 l3 l4 l5 t0 t1 t2 xr xt gn gu gb ga lc lk ln lt ll lr tw tn tt) := hD.sub [0, 1, 2, 3, 4, 5, 6, 7, 8, 9, 10, 11, 12, 13, 14] (by decide) rfl
                exact W.zret (ty := .boolean) (v := r101_v663_4) hx hb hr (by rcases hz9 with h9 | h9 <;> rw [h9] <;> rfl) (fun t ht hW => ⟨⟨r101_v663_4, (), rfl, ⟨he, hz9⟩, by rw [ht]; exact hP, va_K.moved hW.alike hK, hD⟩, hS.F ht⟩) hS.2.2 dL_causes_762
              have loop101 : ∀ (n : Nat) (v663_4 : Int32) (v663_9 : Int32), ∀ (kc663 ks663 : Nat), kc663 + n * 2 ≤ 1095 → ks663 + n * 9 ≤ 6281 → p_L_causes_L663 xr gu gb ga r1_v15_3 r1_c_q2_15 r34_v252_5 n v663_4 v663_9 → (r101_v663_4, r101_v663_9) = f_L_causes_L663 xr gu gb ga r1_v15_3 r1_c_q2_15 r34_v252_5 n v663_4 v663_9 → ∀ (H : Heap) (locs : List Loc), va_P D vwCl ((W_X4 cI x0 g0 g1 g2 g3 g4 l0 l1 l2 l3 l4 l5 t0 t1 t2 xr xt gn gu gb ga lc lk ln lt ll lr tw tn tt) ++ (W_A cI q2 r1_c_q2_15)) H → va_D A ((W_X4 cI x0 g0 g1 g2 g3 g4 l0 l1 l2 l3 l4 l5 t0 t1 t2 xr xt gn gu gb ga lc lk ln lt ll lr tw tn tt) ++ (W_A cI q2 r1_c_q2_15)) → va_S A s.heap H locs → ∀ ls : Array Slot, lv_has ls 16 [(9, .int v663_9), (4, .int v663_4), (5, .int r34_v252_5), (3, .int r1_v15_3), (1, .ref q2), (0, .ref x0)] → W p l e (headSpec wsL_causes rm_L_causes).room s m ([.ref x0] : List Value).toArray below meth c H locs kc663 ks663 (MQ below (Q_L_causes D cI x0 g0 g1 g2 g3 g4 l0 l1 l2 l3 l4 l5 t0 t1 t2 xr xt gn gu gb ga lc lk ln lt ll lr tw tn tt A) ([.ref x0] : List Value).toArray s 1095 6281 A) (F0 m 663 ls []) := by
                intro n
                induction n with
                | zero => exact fun _ _ _ _ _ _ hp => hp.elim
                | succ n ih =>
                  intro v663_4 v663_9 kc663 ks663 hkc663 hks663 hp he H locs hP hD hS ls hl
                  replace hp := Eq.mp (p_L_causes_L663.eq_2 ..) hp
                  replace he := he.trans (f_L_causes_L663.eq_2 ..)
                  refine lv_iload hx hb dL_causes_663 (lv_at hl 0 rfl) ?_
                  refine lv_bipush (v := 14) hx hb dL_causes_665 (by decide) ?_
                  refine lv_icmp_ge (tgt := 760) hx hb dL_causes_667 (by decide) (fun c102 => ?_) (fun c102 => ?_)
                  · replace hp := hp.1 c102
                    replace he := he.trans (if_pos c102)
                    refine W.widen (k := 1095) (n := 6281) (by omega) (by omega) ?_
                    exact kont101 _ _ he _ _ hP hD hS _ (lv_sub hl [1] rfl)
                  · replace hp := hp.2 c102
                    replace he := he.trans (if_neg c102)
                    refine lv_iload hx hb dL_causes_670 (lv_at hl 1 rfl) ?_
                    refine lv_if_eq (tgt := 760) hx hb dL_causes_672 (by decide) (fun c103 => ?_) (fun c103 => ?_)
                    · replace hp := hp.1 c103
                      replace he := he.trans (if_pos c103)
                      refine W.widen (k := 1095) (n := 6281) (by omega) (by omega) ?_
                      exact kont101 _ _ he _ _ hP hD hS _ (lv_sub hl [1] rfl)
                    · replace hp := hp.2 c103
                      replace he := he.trans (if_neg c103)
                      refine lv_iconst (v := (-1)) hx hb dL_causes_675 (by decide) ?_
                      refine lv_istore (lv' := [(10, .int (-1)), (9, .int v663_9), (4, .int v663_4), (5, .int r34_v252_5), (3, .int r1_v15_3), (1, .ref q2), (0, .ref x0)]) hx hb dL_causes_676 hl (by decide) rfl (fun ls hl => ?_)
                      refine lv_bipush (v := 13) hx hb dL_causes_678 (by decide) ?_
                      refine lv_istore (lv' := [(11, .int 13), (10, .int (-1)), (9, .int v663_9), (4, .int v663_4), (5, .int r34_v252_5), (3, .int r1_v15_3), (1, .ref q2), (0, .ref x0)]) hx hb dL_causes_680 hl (by decide) rfl (fun ls hl => ?_)
                      obtain ⟨⟨r104_v682_10, r104_v682_11⟩, hL104⟩ : ∃ z, z = f_L_causes_L682 r1_v15_3 r1_c_q2_15 r34_v252_5 v663_9 15 ((-1) : Int32) (13 : Int32) := ⟨_, rfl⟩
                      rw [← hL104] at he
                      try dsimp only at he
                      have hpL104 := hp.1
                      replace hp := hp.2 _ _ hL104.symm
                      have kont104 : ∀ (x104_v682_10 : Int32) (x104_v682_11 : Int32), (r104_v682_10, r104_v682_11) = (x104_v682_10, x104_v682_11) → ∀ (H : Heap) (locs : List Loc), va_P D vwCl ((W_X4 cI x0 g0 g1 g2 g3 g4 l0 l1 l2 l3 l4 l5 t0 t1 t2 xr xt gn gu gb ga lc lk ln lt ll lr tw tn tt) ++ (W_A cI q2 r1_c_q2_15)) H → va_D A ((W_X4 cI x0 g0 g1 g2 g3 g4 l0 l1 l2 l3 l4 l5 t0 t1 t2 xr xt gn gu gb ga lc lk ln lt ll lr tw tn tt) ++ (W_A cI q2 r1_c_q2_15)) → va_S A s.heap H locs → ∀ ls : Array Slot, lv_has ls 16 [(10, .int x104_v682_10), (9, .int v663_9), (5, .int r34_v252_5), (3, .int r1_v15_3), (1, .ref q2), (0, .ref x0)] → W p l e (headSpec wsL_causes rm_L_causes).room s m ([.ref x0] : List Value).toArray below meth c H locs kc663 ks663 (MQ below (Q_L_causes D cI x0 g0 g1 g2 g3 g4 l0 l1 l2 l3 l4 l5 t0 t1 t2 xr xt gn gu gb ga lc lk ln lt ll lr tw tn tt A) ([.ref x0] : List Value).toArray s 1095 6281 A) (F0 m 736 ls []) := by
                        intro x104_v682_10 x104_v682_11 hxe H locs hP hD hS ls hl
                        simp only [Prod.mk.injEq] at hxe
                        obtain ⟨rfl, rfl⟩ := hxe
                        refine lv_aload_n hx hb dL_causes_736 rfl (lv_at hl 5 rfl) ?_
                        refine lv_iload hx hb dL_causes_737 (lv_at hl 1 rfl) ?_
                        have hq111 := hp.1
                        replace hp := hp.2
                        refine k_ycalli (S := Unit) (wc := (W_X4 cI x0 g0 g1 g2 g3 g4 l0 l1 l2 l3 l4 l5 t0 t1 t2 xr xt gn gu gb ga lc lk ln lt ll lr tw tn tt)) (wr := (W_A cI q2 r1_c_q2_15)) (w1 := fun u => (W_X4 cI x0 g0 g1 g2 g3 g4 l0 l1 l2 l3 l4 l5 t0 t1 t2 xr xt gn gu gb ga lc lk ln lt ll lr tw tn tt)) (fun u => ((W_X4 cI x0 g0 g1 g2 g3 g4 l0 l1 l2 l3 l4 l5 t0 t1 t2 xr xt gn gu gb ga lc lk ln lt ll lr tw tn tt) ++ (W_A cI q2 r1_c_q2_15))) hP hK hD hN hXB hS hA [0, 1, 2, 3, 4, 5, 6, 7, 8, 9, 10, 11, 12, 13, 14] [15] rfl rfl (by decide) (by decide) (by decide) [1, 2, 3, 4, 5, 6, 7, 8, 9, 10, 11, 12, 13, 14, 15, 0] (by decide) (fun _ => rfl) (fun hg => vx_runSW (As := [.ref x0, .int v663_9]) (rest := []) ⟨hx, hb, hml, hown, hts⟩ (c_L_causeOf l D cI x0 g0 g1 g2 g3 g4 l0 l1 l2 l3 l4 l5 t0 t1 t2 xr xt gn gu gb ga lc lk ln lt ll lr tw tn tt _ v663_9 hq111 hst) (vx_cwSW 2 hts gL_causes_L_causeOf rfl rfl rfl (by decide +kernel) ⟨Nat.le_of_ble_eq_true rfl, Nat.le_of_ble_eq_true rfl⟩) ⟨PX.blind, fun U hU hW => ⟨rfl, hg U hU hW⟩⟩ rfl rfl hl.1 rfl (lv_room (Nat.le_of_ble_eq_true rfl)) dL_causes_739 ⟨(by show kc663 + 2 ≤ 1095; omega), (by show ks663 + 9 ≤ 6281; omega)⟩) (fun r111 u H locs hw hP hD hS => ?_)
                        subst hw
                        refine lv_iload hx hb dL_causes_742 (lv_at hl 0 rfl) ?_
                        obtain ⟨j112, hJ112⟩ : ∃ z : Int32, z = (if (f_L_causeOf xr gu gb ga v663_9) = r104_v682_10 then (1 : Int32) else (0 : Int32)) := ⟨_, rfl⟩
                        rw [← hJ112] at he
                        try dsimp only at he
                        have hpJ112 := hp.1
                        replace hp := hp.2 _  hJ112.symm
                        have kont112 : (j112 = 0 ∨ j112 = 1) → ∀ (H : Heap) (locs : List Loc), va_P D vwCl ((W_X4 cI x0 g0 g1 g2 g3 g4 l0 l1 l2 l3 l4 l5 t0 t1 t2 xr xt gn gu gb ga lc lk ln lt ll lr tw tn tt) ++ (W_A cI q2 r1_c_q2_15)) H → va_D A ((W_X4 cI x0 g0 g1 g2 g3 g4 l0 l1 l2 l3 l4 l5 t0 t1 t2 xr xt gn gu gb ga lc lk ln lt ll lr tw tn tt) ++ (W_A cI q2 r1_c_q2_15)) → va_S A s.heap H locs → ∀ ls : Array Slot, lv_has ls 16 [(9, .int v663_9), (5, .int r34_v252_5), (3, .int r1_v15_3), (1, .ref q2), (0, .ref x0)] → W p l e (headSpec wsL_causes rm_L_causes).room s m ([.ref x0] : List Value).toArray below meth c H locs (kc663 + 2) (ks663 + 9) (MQ below (Q_L_causes D cI x0 g0 g1 g2 g3 g4 l0 l1 l2 l3 l4 l5 t0 t1 t2 xr xt gn gu gb ga lc lk ln lt ll lr tw tn tt A) ([.ref x0] : List Value).toArray s 1095 6281 A) (F0 m 752 ls [.int j112]) := by
                          intro hb112 H locs hP hD hS ls hl
                          refine lv_istore (lv' := [(4, .int j112), (9, .int v663_9), (5, .int r34_v252_5), (3, .int r1_v15_3), (1, .ref q2), (0, .ref x0)]) hx hb dL_causes_752 hl (by decide) rfl (fun ls hl => ?_)
                          refine lv_iinc (v := (v663_9 + 1)) (lv' := [(9, .int (v663_9 + 1)), (4, .int j112), (5, .int r34_v252_5), (3, .int r1_v15_3), (1, .ref q2), (0, .ref x0)]) hx hb dL_causes_754 hl (k := 1) rfl rfl (by decide) rfl (fun ls hl => ?_)
                          refine lv_goto (tgt := 663) hx hb dL_causes_757 (by decide) ?_
                          refine W.widen (k := kc663 + 2) (n := ks663 + 9) (by omega) (by omega) ?_
                          exact ih _ _ (kc663 + 2) (ks663 + 9) (by omega) (by omega) hp he _ _ hP hD hS _ (lv_sub hl [0, 1, 2, 3, 4, 5] rfl)
                        replace he := hJ112
                        replace hp := hpJ112
                        refine lv_icmp_ne (tgt := 751) hx hb dL_causes_744 (by decide) (fun c113 => ?_) (fun c113 => ?_)
                        · replace hp := hp.2 c113
                          replace he := he.trans (if_neg c113)
                          refine lv_iconst (v := 0) hx hb dL_causes_751 (by decide) ?_
                          subst he
                          exact kont112 (Or.inl rfl) _ _ hP hD hS _ (lv_sub hl [1, 2, 3, 4, 5] rfl)
                        · replace hp := hp.1 c113
                          replace he := he.trans (if_pos c113)
                          refine lv_iconst (v := 1) hx hb dL_causes_747 (by decide) ?_
                          refine lv_goto (tgt := 752) hx hb dL_causes_748 (by decide) ?_
                          subst he
                          exact kont112 (Or.inr rfl) _ _ hP hD hS _ (lv_sub hl [1, 2, 3, 4, 5] rfl)
                      have loop104 : ∀ (n : Nat) (v682_10 : Int32) (v682_11 : Int32), p_L_causes_L682 r1_v15_3 r1_c_q2_15 r34_v252_5 v663_9 n v682_10 v682_11 → (r104_v682_10, r104_v682_11) = f_L_causes_L682 r1_v15_3 r1_c_q2_15 r34_v252_5 v663_9 n v682_10 v682_11 → ∀ (H : Heap) (locs : List Loc), va_P D vwCl ((W_X4 cI x0 g0 g1 g2 g3 g4 l0 l1 l2 l3 l4 l5 t0 t1 t2 xr xt gn gu gb ga lc lk ln lt ll lr tw tn tt) ++ (W_A cI q2 r1_c_q2_15)) H → va_D A ((W_X4 cI x0 g0 g1 g2 g3 g4 l0 l1 l2 l3 l4 l5 t0 t1 t2 xr xt gn gu gb ga lc lk ln lt ll lr tw tn tt) ++ (W_A cI q2 r1_c_q2_15)) → va_S A s.heap H locs → ∀ ls : Array Slot, lv_has ls 16 [(11, .int v682_11), (10, .int v682_10), (9, .int v663_9), (5, .int r34_v252_5), (3, .int r1_v15_3), (1, .ref q2), (0, .ref x0)] → W p l e (headSpec wsL_causes rm_L_causes).room s m ([.ref x0] : List Value).toArray below meth c H locs kc663 ks663 (MQ below (Q_L_causes D cI x0 g0 g1 g2 g3 g4 l0 l1 l2 l3 l4 l5 t0 t1 t2 xr xt gn gu gb ga lc lk ln lt ll lr tw tn tt A) ([.ref x0] : List Value).toArray s 1095 6281 A) (F0 m 682 ls []) := by
                        intro n
                        induction n with
                        | zero => exact fun _ _ hp => hp.elim
                        | succ n ih =>
                          intro v682_10 v682_11 hp he H locs hP hD hS ls hl
                          replace hp := Eq.mp (p_L_causes_L682.eq_2 ..) hp
                          replace he := he.trans (f_L_causes_L682.eq_2 ..)
                          refine lv_iload hx hb dL_causes_682 (lv_at hl 0 rfl) ?_
                          refine lv_if_lt (tgt := 736) hx hb dL_causes_684 (by decide) (fun c105 => ?_) (fun c105 => ?_)
                          · replace hp := hp.1 c105
                            replace he := he.trans (if_pos c105)
                            exact kont104 _ _ he _ _ hP hD hS _ (lv_sub hl [1, 2, 3, 4, 5, 6] rfl)
                          · replace hp := hp.2 c105
                            replace he := he.trans (if_neg c105)
                            refine lv_iload hx hb dL_causes_687 (lv_at hl 3 rfl) ?_
                            refine lv_iload hx hb dL_causes_689 (lv_at hl 0 rfl) ?_
                            refine lv_ishr hx hb dL_causes_691 ?_
                            refine lv_iconst (v := 1) hx hb dL_causes_692 (by decide) ?_
                            refine lv_iand hx hb dL_causes_693 ?_
                            refine lv_iconst (v := 1) hx hb dL_causes_694 (by decide) ?_
                            obtain ⟨j106, hJ106⟩ : ∃ z : Int32, z = (if ((r34_v252_5 >>> (v682_11 &&& 31)) &&& 1) = 1 then (if (((r1_c_q2_15 (v682_11).toNatClampNeg) >>> (v663_9 &&& 31)) &&& 1) = 1 then (if ((r1_v15_3 >>> (v663_9 &&& 31)) &&& 1) = 1 then v682_11 else v682_10) else v682_10) else v682_10) := ⟨_, rfl⟩
                            rw [← hJ106] at he
                            try dsimp only at he
                            have hpJ106 := hp.1
                            replace hp := hp.2 _  hJ106.symm
                            have kont106 : ∀ (H : Heap) (locs : List Loc), va_P D vwCl ((W_X4 cI x0 g0 g1 g2 g3 g4 l0 l1 l2 l3 l4 l5 t0 t1 t2 xr xt gn gu gb ga lc lk ln lt ll lr tw tn tt) ++ (W_A cI q2 r1_c_q2_15)) H → va_D A ((W_X4 cI x0 g0 g1 g2 g3 g4 l0 l1 l2 l3 l4 l5 t0 t1 t2 xr xt gn gu gb ga lc lk ln lt ll lr tw tn tt) ++ (W_A cI q2 r1_c_q2_15)) → va_S A s.heap H locs → ∀ ls : Array Slot, lv_has ls 16 [(11, .int v682_11), (9, .int v663_9), (5, .int r34_v252_5), (3, .int r1_v15_3), (1, .ref q2), (0, .ref x0)] → W p l e (headSpec wsL_causes rm_L_causes).room s m ([.ref x0] : List Value).toArray below meth c H locs kc663 ks663 (MQ below (Q_L_causes D cI x0 g0 g1 g2 g3 g4 l0 l1 l2 l3 l4 l5 t0 t1 t2 xr xt gn gu gb ga lc lk ln lt ll lr tw tn tt A) ([.ref x0] : List Value).toArray s 1095 6281 A) (F0 m 728 ls [.int j106]) := by
                              intro H locs hP hD hS ls hl
                              refine lv_istore (lv' := [(10, .int j106), (11, .int v682_11), (9, .int v663_9), (5, .int r34_v252_5), (3, .int r1_v15_3), (1, .ref q2), (0, .ref x0)]) hx hb dL_causes_728 hl (by decide) rfl (fun ls hl => ?_)
                              refine lv_iinc (v := (v682_11 + (-1))) (lv' := [(11, .int (v682_11 + (-1))), (10, .int j106), (9, .int v663_9), (5, .int r34_v252_5), (3, .int r1_v15_3), (1, .ref q2), (0, .ref x0)]) hx hb dL_causes_730 hl (k := 1) rfl rfl (by decide) rfl (fun ls hl => ?_)
                              refine lv_goto (tgt := 682) hx hb dL_causes_733 (by decide) ?_
                              exact ih _ _ hp he _ _ hP hD hS _ (lv_sub hl [0, 1, 2, 3, 4, 5, 6] rfl)
                            replace he := hJ106
                            replace hp := hpJ106
                            refine lv_icmp_ne (tgt := 726) hx hb dL_causes_695 (by decide) (fun c107 => ?_) (fun c107 => ?_)
                            · replace hp := hp.2 c107
                              replace he := he.trans (if_neg c107)
                              refine lv_iload hx hb dL_causes_726 (lv_at hl 1 rfl) ?_
                              subst he
                              exact kont106 _ _ hP hD hS _ (lv_sub hl [0, 2, 3, 4, 5, 6] rfl)
                            · replace hp := hp.1 c107
                              replace he := he.trans (if_pos c107)
                              refine lv_aload_n hx hb dL_causes_698 rfl (lv_at hl 5 rfl) ?_
                              refine lv_iload hx hb dL_causes_699 (lv_at hl 0 rfl) ?_
                              have h108 := hp.1
                              replace hp := hp.2
                              refine va_iald hx hb hK hP 15 0 rfl rfl h108 dL_causes_701 ?_
                              refine lv_iload hx hb dL_causes_702 (lv_at hl 2 rfl) ?_
                              refine lv_ishr hx hb dL_causes_704 ?_
                              refine lv_iconst (v := 1) hx hb dL_causes_705 (by decide) ?_
                              refine lv_iand hx hb dL_causes_706 ?_
                              refine lv_iconst (v := 1) hx hb dL_causes_707 (by decide) ?_
                              refine lv_icmp_ne (tgt := 726) hx hb dL_causes_708 (by decide) (fun c109 => ?_) (fun c109 => ?_)
                              · replace hp := hp.2 c109
                                replace he := he.trans (if_neg c109)
                                refine lv_iload hx hb dL_causes_726 (lv_at hl 1 rfl) ?_
                                subst he
                                exact kont106 _ _ hP hD hS _ (lv_sub hl [0, 2, 3, 4, 5, 6] rfl)
                              · replace hp := hp.1 c109
                                replace he := he.trans (if_pos c109)
                                refine lv_iload_n hx hb dL_causes_711 rfl (lv_at hl 4 rfl) ?_
                                refine lv_iload hx hb dL_causes_712 (lv_at hl 2 rfl) ?_
                                refine lv_ishr hx hb dL_causes_714 ?_
                                refine lv_iconst (v := 1) hx hb dL_causes_715 (by decide) ?_
                                refine lv_iand hx hb dL_causes_716 ?_
                                refine lv_iconst (v := 1) hx hb dL_causes_717 (by decide) ?_
                                refine lv_icmp_ne (tgt := 726) hx hb dL_causes_718 (by decide) (fun c110 => ?_) (fun c110 => ?_)
                                · replace hp := hp.2 c110
                                  replace he := he.trans (if_neg c110)
                                  refine lv_iload hx hb dL_causes_726 (lv_at hl 1 rfl) ?_
                                  subst he
                                  exact kont106 _ _ hP hD hS _ (lv_sub hl [0, 2, 3, 4, 5, 6] rfl)
                                · replace hp := hp.1 c110
                                  replace he := he.trans (if_pos c110)
                                  refine lv_iload hx hb dL_causes_721 (lv_at hl 0 rfl) ?_
                                  refine lv_goto (tgt := 728) hx hb dL_causes_723 (by decide) ?_
                                  subst he
                                  exact kont106 _ _ hP hD hS _ (lv_sub hl [0, 2, 3, 4, 5, 6] rfl)
                      exact loop104 15 ((-1) : Int32) (13 : Int32) hpL104 hL104 _ _ hP hD hS _ (lv_sub hl [0, 1, 2, 4, 5, 6, 7] rfl)
              exact loop101 15 j92 (0 : Int32) 1065 6146 (Nat.le_refl _) (Nat.le_refl _) hpL101 hL101 _ _ hP hD hS _ (lv_sub hl [0, 1, 2, 3, 4, 5] rfl)
            replace he := hJ92
            replace hp := hpJ92
            refine lv_if_eq (tgt := 657) hx hb dL_causes_615 (by decide) (fun c93 => ?_) (fun c93 => ?_)
            · replace hp := hp.1 c93
              replace he := he.trans (if_pos c93)
              refine lv_iconst (v := 0) hx hb dL_causes_657 (by decide) ?_
              subst he
              refine W.widen (k := 1065) (n := 6146) (by omega) (by omega) ?_
              exact kont92 (Or.inl rfl) _ _ hP hD hS _ (lv_sub hl [3, 4, 5, 6] rfl)
            · replace hp := hp.2 c93
              replace he := he.trans (if_neg c93)
              refine lv_iload hx hb dL_causes_618 (lv_at hl 1 rfl) ?_
              refine lv_if_ne (tgt := 657) hx hb dL_causes_620 (by decide) (fun c94 => ?_) (fun c94 => ?_)
              · replace hp := hp.2 c94
                replace he := he.trans (if_neg c94)
                refine lv_iconst (v := 0) hx hb dL_causes_657 (by decide) ?_
                subst he
                refine W.widen (k := 1065) (n := 6146) (by omega) (by omega) ?_
                exact kont92 (Or.inl rfl) _ _ hP hD hS _ (lv_sub hl [3, 4, 5, 6] rfl)
              · replace hp := hp.1 c94
                replace he := he.trans (if_pos c94)
                refine lv_iload hx hb dL_causes_623 (lv_at hl 0 rfl) ?_
                refine lv_aload_n hx hb dL_causes_625 rfl (lv_at hl 6 rfl) ?_
                have hq95 := hp.1
                replace hp := hp.2
                refine k_calli (S := Unit) (wc := (W_X4 cI x0 g0 g1 g2 g3 g4 l0 l1 l2 l3 l4 l5 t0 t1 t2 xr xt gn gu gb ga lc lk ln lt ll lr tw tn tt)) (wr := (W_A cI q2 r1_c_q2_15)) (w1 := fun u => (W_X4 cI x0 g0 g1 g2 g3 g4 l0 l1 l2 l3 l4 l5 t0 t1 t2 xr xt gn gu gb ga lc lk ln lt ll lr tw tn tt)) (fun u => ((W_X4 cI x0 g0 g1 g2 g3 g4 l0 l1 l2 l3 l4 l5 t0 t1 t2 xr xt gn gu gb ga lc lk ln lt ll lr tw tn tt) ++ (W_A cI q2 r1_c_q2_15))) hP hK hD hN hS hA [0, 1, 2, 3, 4, 5, 6, 7, 8, 9, 10, 11, 12, 13, 14] [15] rfl rfl (by decide) (by decide) (by decide) [1, 2, 3, 4, 5, 6, 7, 8, 9, 10, 11, 12, 13, 14, 15, 0] (by decide) (fun _ => rfl) (fun hg => va_runV (As := []) (rest := [.int (f_X4_greedyCauses xr gu ga)]) ⟨hx, hb, hml, hown, hts⟩ (c_X4_causes l D cI x0 g0 g1 g2 g3 g4 l0 l1 l2 l3 l4 l5 t0 t1 t2 xr xt gn gu gb ga lc lk ln lt ll lr tw tn tt _ hq95) (cwV 0 hts gL_causes_X4_causes rfl rfl rfl (by decide +kernel) ⟨Nat.le_of_ble_eq_true rfl, Nat.le_of_ble_eq_true rfl⟩) ⟨PW.blind, va_recv hK hP (ci := 4) (q0 := 0) rfl rfl, fun U hU hW => ⟨rfl, hg U hU hW⟩⟩ rfl rfl hl.1 rfl (lv_room (Nat.le_of_ble_eq_true rfl)) dL_causes_626 ⟨Nat.le_of_ble_eq_true rfl, Nat.le_of_ble_eq_true rfl⟩) (fun r95 u H locs hw hP hD hS => ?_)
                subst hw
                refine lv_icmp_lt (tgt := 657) hx hb dL_causes_629 (by decide) (fun c96 => ?_) (fun c96 => ?_)
                · replace hp := hp.1 c96
                  replace he := he.trans (if_pos c96)
                  refine lv_iconst (v := 0) hx hb dL_causes_657 (by decide) ?_
                  subst he
                  refine W.widen (k := 1065) (n := 6146) (by omega) (by omega) ?_
                  exact kont92 (Or.inl rfl) _ _ hP hD hS _ (lv_sub hl [3, 4, 5, 6] rfl)
                · replace hp := hp.2 c96
                  replace he := he.trans (if_neg c96)
                  refine lv_aload_n hx hb dL_causes_632 rfl (lv_at hl 6 rfl) ?_
                  refine lv_iload hx hb dL_causes_633 (lv_at hl 0 rfl) ?_
                  have hq97 := hp.1
                  replace hp := hp.2
                  refine k_ycalli (S := Unit) (wc := (W_X4 cI x0 g0 g1 g2 g3 g4 l0 l1 l2 l3 l4 l5 t0 t1 t2 xr xt gn gu gb ga lc lk ln lt ll lr tw tn tt)) (wr := (W_A cI q2 r1_c_q2_15)) (w1 := fun u => (W_X4 cI x0 g0 g1 g2 g3 g4 l0 l1 l2 l3 l4 l5 t0 t1 t2 xr xt gn gu gb ga lc lk ln lt ll lr tw tn tt)) (fun u => ((W_X4 cI x0 g0 g1 g2 g3 g4 l0 l1 l2 l3 l4 l5 t0 t1 t2 xr xt gn gu gb ga lc lk ln lt ll lr tw tn tt) ++ (W_A cI q2 r1_c_q2_15))) hP hK hD hN hXB hS hA [0, 1, 2, 3, 4, 5, 6, 7, 8, 9, 10, 11, 12, 13, 14] [15] rfl rfl (by decide) (by decide) (by decide) [1, 2, 3, 4, 5, 6, 7, 8, 9, 10, 11, 12, 13, 14, 15, 0] (by decide) (fun _ => rfl) (fun hg => vx_runSW (As := [.ref x0, .int (f_X4_greedyCauses xr gu ga)]) (rest := []) ⟨hx, hb, hml, hown, hts⟩ (c_L_greedy l D cI x0 g0 g1 g2 g3 g4 l0 l1 l2 l3 l4 l5 t0 t1 t2 xr xt gn gu gb ga lc lk ln lt ll lr tw tn tt _ (f_X4_greedyCauses xr gu ga) hq97 hst) (vx_cwSW 2 hts gL_causes_L_greedy rfl rfl rfl (by decide +kernel) ⟨Nat.le_of_ble_eq_true rfl, Nat.le_of_ble_eq_true rfl⟩) ⟨PX.blind, fun U hU hW => ⟨rfl, hg U hU hW⟩⟩ rfl rfl hl.1 rfl (lv_room (Nat.le_of_ble_eq_true rfl)) dL_causes_635 ⟨Nat.le_of_ble_eq_true rfl, Nat.le_of_ble_eq_true rfl⟩) (fun r97 u H locs hw hP hD hS => ?_)
                  subst hw
                  refine lv_bipush (v := (-101)) hx hb dL_causes_638 (by decide) ?_
                  refine lv_icmp_ne (tgt := 657) hx hb dL_causes_640 (by decide) (fun c98 => ?_) (fun c98 => ?_)
                  · replace hp := hp.2 c98
                    replace he := he.trans (if_neg c98)
                    refine lv_iconst (v := 0) hx hb dL_causes_657 (by decide) ?_
                    subst he
                    refine W.widen (k := 1065) (n := 6146) (by omega) (by omega) ?_
                    exact kont92 (Or.inl rfl) _ _ hP hD hS _ (lv_sub hl [3, 4, 5, 6] rfl)
                  · replace hp := hp.1 c98
                    replace he := he.trans (if_pos c98)
                    refine lv_aload_n hx hb dL_causes_643 rfl (lv_at hl 6 rfl) ?_
                    refine lv_iconst (v := (-1)) hx hb dL_causes_644 (by decide) ?_
                    have hq99 := hp.1
                    replace hp := hp.2
                    refine k_ycalli (S := Unit) (wc := (W_X4 cI x0 g0 g1 g2 g3 g4 l0 l1 l2 l3 l4 l5 t0 t1 t2 xr xt gn gu gb ga lc lk ln lt ll lr tw tn tt)) (wr := (W_A cI q2 r1_c_q2_15)) (w1 := fun u => (W_X4 cI x0 g0 g1 g2 g3 g4 l0 l1 l2 l3 l4 l5 t0 t1 t2 xr xt gn gu gb ga lc lk ln lt ll lr tw tn tt)) (fun u => ((W_X4 cI x0 g0 g1 g2 g3 g4 l0 l1 l2 l3 l4 l5 t0 t1 t2 xr xt gn gu gb ga lc lk ln lt ll lr tw tn tt) ++ (W_A cI q2 r1_c_q2_15))) hP hK hD hN hXB hS hA [0, 1, 2, 3, 4, 5, 6, 7, 8, 9, 10, 11, 12, 13, 14] [15] rfl rfl (by decide) (by decide) (by decide) [1, 2, 3, 4, 5, 6, 7, 8, 9, 10, 11, 12, 13, 14, 15, 0] (by decide) (fun _ => rfl) (fun hg => vx_runSW (As := [.ref x0, .int (-1)]) (rest := []) ⟨hx, hb, hml, hown, hts⟩ (c_L_greedy l D cI x0 g0 g1 g2 g3 g4 l0 l1 l2 l3 l4 l5 t0 t1 t2 xr xt gn gu gb ga lc lk ln lt ll lr tw tn tt _ (-1) hq99 hst) (vx_cwSW 2 hts gL_causes_L_greedy rfl rfl rfl (by decide +kernel) ⟨Nat.le_of_ble_eq_true rfl, Nat.le_of_ble_eq_true rfl⟩) ⟨PX.blind, fun U hU hW => ⟨rfl, hg U hU hW⟩⟩ rfl rfl hl.1 rfl (lv_room (Nat.le_of_ble_eq_true rfl)) dL_causes_645 ⟨Nat.le_of_ble_eq_true rfl, Nat.le_of_ble_eq_true rfl⟩) (fun r99 u H locs hw hP hD hS => ?_)
                    subst hw
                    refine lv_bipush (v := (-101)) hx hb dL_causes_648 (by decide) ?_
                    refine lv_icmp_ne (tgt := 657) hx hb dL_causes_650 (by decide) (fun c100 => ?_) (fun c100 => ?_)
                    · replace hp := hp.2 c100
                      replace he := he.trans (if_neg c100)
                      refine lv_iconst (v := 0) hx hb dL_causes_657 (by decide) ?_
                      subst he
                      exact kont92 (Or.inl rfl) _ _ hP hD hS _ (lv_sub hl [3, 4, 5, 6] rfl)
                    · replace hp := hp.1 c100
                      replace he := he.trans (if_pos c100)
                      refine lv_iconst (v := 1) hx hb dL_causes_653 (by decide) ?_
                      refine lv_goto (tgt := 658) hx hb dL_causes_654 (by decide) ?_
                      subst he
                      exact kont92 (Or.inr rfl) _ _ hP hD hS _ (lv_sub hl [3, 4, 5, 6] rfl)
          have loop57 : ∀ (n : Nat) (v396_4 : Int32) (v396_7 : Int32) (v396_9 : Int32), ∀ (kc396 ks396 : Nat), kc396 + n * 2 ≤ 1060 → ks396 + n * 9 ≤ 6125 → p_L_causes_L396 xr gu ga r1_v15_3 r1_c_q2_15 r15_v107_2 n v396_4 v396_7 v396_9 → (r57_v396_4, r57_v396_7, r57_v396_9) = f_L_causes_L396 xr gu ga r1_v15_3 r1_c_q2_15 r15_v107_2 n v396_4 v396_7 v396_9 → ∀ (H : Heap) (locs : List Loc), va_P D vwCl ((W_X4 cI x0 g0 g1 g2 g3 g4 l0 l1 l2 l3 l4 l5 t0 t1 t2 xr xt gn gu gb ga lc lk ln lt ll lr tw tn tt) ++ (W_A cI q2 r1_c_q2_15)) H → va_D A ((W_X4 cI x0 g0 g1 g2 g3 g4 l0 l1 l2 l3 l4 l5 t0 t1 t2 xr xt gn gu gb ga lc lk ln lt ll lr tw tn tt) ++ (W_A cI q2 r1_c_q2_15)) → va_S A s.heap H locs → ∀ ls : Array Slot, lv_has ls 16 [(9, .int v396_9), (8, .int (f_X4_greedyCauses xr gu ga)), (7, .int v396_7), (4, .int v396_4), (5, .int r34_v252_5), (3, .int r1_v15_3), (2, .int r15_v107_2), (1, .ref q2), (0, .ref x0)] → W p l e (headSpec wsL_causes rm_L_causes).room s m ([.ref x0] : List Value).toArray below meth c H locs kc396 ks396 (MQ below (Q_L_causes D cI x0 g0 g1 g2 g3 g4 l0 l1 l2 l3 l4 l5 t0 t1 t2 xr xt gn gu gb ga lc lk ln lt ll lr tw tn tt A) ([.ref x0] : List Value).toArray s 1095 6281 A) (F0 m 396 ls []) := by
            intro n
            induction n with
            | zero => exact fun _ _ _ _ _ _ _ hp => hp.elim
            | succ n ih =>
              intro v396_4 v396_7 v396_9 kc396 ks396 hkc396 hks396 hp he H locs hP hD hS ls hl
              replace hp := Eq.mp (p_L_causes_L396.eq_2 ..) hp
              replace he := he.trans (f_L_causes_L396.eq_2 ..)
              refine lv_iload hx hb dL_causes_396 (lv_at hl 0 rfl) ?_
              refine lv_iload hx hb dL_causes_398 (lv_at hl 1 rfl) ?_
              refine lv_icmp_ge (tgt := 613) hx hb dL_causes_400 (by decide) (fun c58 => ?_) (fun c58 => ?_)
              · replace hp := hp.1 c58
                replace he := he.trans (if_pos c58)
                refine W.widen (k := 1060) (n := 6125) (by omega) (by omega) ?_
                exact kont57 _ _ _ he _ _ hP hD hS _ (lv_sub hl [1, 2, 3, 4, 5, 7, 8] rfl)
              · replace hp := hp.2 c58
                replace he := he.trans (if_neg c58)
                refine lv_iload hx hb dL_causes_403 (lv_at hl 3 rfl) ?_
                refine lv_if_eq (tgt := 613) hx hb dL_causes_405 (by decide) (fun c59 => ?_) (fun c59 => ?_)
                · replace hp := hp.1 c59
                  replace he := he.trans (if_pos c59)
                  refine W.widen (k := 1060) (n := 6125) (by omega) (by omega) ?_
                  exact kont57 _ _ _ he _ _ hP hD hS _ (lv_sub hl [1, 2, 3, 4, 5, 7, 8] rfl)
                · replace hp := hp.2 c59
                  replace he := he.trans (if_neg c59)
                  refine lv_aload_n hx hb dL_causes_408 rfl (lv_at hl 8 rfl) ?_
                  refine lv_iload hx hb dL_causes_409 (lv_at hl 0 rfl) ?_
                  have hq60 := hp.1
                  replace hp := hp.2
                  refine k_ycalli (S := Unit) (wc := (W_X4 cI x0 g0 g1 g2 g3 g4 l0 l1 l2 l3 l4 l5 t0 t1 t2 xr xt gn gu gb ga lc lk ln lt ll lr tw tn tt)) (wr := (W_A cI q2 r1_c_q2_15)) (w1 := fun u => (W_X4 cI x0 g0 g1 g2 g3 g4 l0 l1 l2 l3 l4 l5 t0 t1 t2 xr xt gn gu gb ga lc lk ln lt ll lr tw tn tt)) (fun u => ((W_X4 cI x0 g0 g1 g2 g3 g4 l0 l1 l2 l3 l4 l5 t0 t1 t2 xr xt gn gu gb ga lc lk ln lt ll lr tw tn tt) ++ (W_A cI q2 r1_c_q2_15))) hP hK hD hN hXB hS hA [0, 1, 2, 3, 4, 5, 6, 7, 8, 9, 10, 11, 12, 13, 14] [15] rfl rfl (by decide) (by decide) (by decide) [1, 2, 3, 4, 5, 6, 7, 8, 9, 10, 11, 12, 13, 14, 15, 0] (by decide) (fun _ => rfl) (fun hg => vx_runSW (As := [.ref x0, .int v396_9]) (rest := []) ⟨hx, hb, hml, hown, hts⟩ (c_L_greedy l D cI x0 g0 g1 g2 g3 g4 l0 l1 l2 l3 l4 l5 t0 t1 t2 xr xt gn gu gb ga lc lk ln lt ll lr tw tn tt _ v396_9 hq60 hst) (vx_cwSW 2 hts gL_causes_L_greedy rfl rfl rfl (by decide +kernel) ⟨Nat.le_of_ble_eq_true rfl, Nat.le_of_ble_eq_true rfl⟩) ⟨PX.blind, fun U hU hW => ⟨rfl, hg U hU hW⟩⟩ rfl rfl hl.1 rfl (lv_room (Nat.le_of_ble_eq_true rfl)) dL_causes_411 ⟨(by show kc396 + 2 ≤ 1095; omega), (by show ks396 + 9 ≤ 6281; omega)⟩) (fun r60 u H locs hw hP hD hS => ?_)
                  subst hw
                  refine lv_istore (lv' := [(10, .int (f_L_greedy xr gu ga v396_9)), (9, .int v396_9), (8, .int (f_X4_greedyCauses xr gu ga)), (7, .int v396_7), (4, .int v396_4), (5, .int r34_v252_5), (3, .int r1_v15_3), (2, .int r15_v107_2), (1, .ref q2), (0, .ref x0)]) hx hb dL_causes_414 hl (by decide) rfl (fun ls hl => ?_)
                  refine lv_iload hx hb dL_causes_416 (lv_at hl 0 rfl) ?_
                  obtain ⟨j61, hJ61⟩ : ∃ z : Int32, z = (if (f_L_greedy xr gu ga v396_9) < 0 then (0 : Int32) else (if ((r15_v107_2 >>> ((f_L_greedy xr gu ga v396_9) &&& 31)) &&& 1) = 1 then (if ((r1_c_q2_15 ((f_L_greedy xr gu ga v396_9)).toNatClampNeg) &&& v396_7) = 0 then (0 : Int32) else (1 : Int32)) else (0 : Int32))) := ⟨_, rfl⟩
                  rw [← hJ61] at he
                  try dsimp only at he
                  have hpJ61 := hp.1
                  replace hp := hp.2 _  hJ61.symm
                  have kont61 : (j61 = 0 ∨ j61 = 1) → ∀ (H : Heap) (locs : List Loc), va_P D vwCl ((W_X4 cI x0 g0 g1 g2 g3 g4 l0 l1 l2 l3 l4 l5 t0 t1 t2 xr xt gn gu gb ga lc lk ln lt ll lr tw tn tt) ++ (W_A cI q2 r1_c_q2_15)) H → va_D A ((W_X4 cI x0 g0 g1 g2 g3 g4 l0 l1 l2 l3 l4 l5 t0 t1 t2 xr xt gn gu gb ga lc lk ln lt ll lr tw tn tt) ++ (W_A cI q2 r1_c_q2_15)) → va_S A s.heap H locs → ∀ ls : Array Slot, lv_has ls 16 [(10, .int (f_L_greedy xr gu ga v396_9)), (9, .int v396_9), (8, .int (f_X4_greedyCauses xr gu ga)), (7, .int v396_7), (5, .int r34_v252_5), (3, .int r1_v15_3), (2, .int r15_v107_2), (1, .ref q2), (0, .ref x0)] → W p l e (headSpec wsL_causes rm_L_causes).room s m ([.ref x0] : List Value).toArray below meth c H locs (kc396 + 2) (ks396 + 9) (MQ below (Q_L_causes D cI x0 g0 g1 g2 g3 g4 l0 l1 l2 l3 l4 l5 t0 t1 t2 xr xt gn gu gb ga lc lk ln lt ll lr tw tn tt A) ([.ref x0] : List Value).toArray s 1095 6281 A) (F0 m 446 ls [.int j61]) := by
                    intro hb61 H locs hP hD hS ls hl
                    refine lv_istore (lv' := [(4, .int j61), (10, .int (f_L_greedy xr gu ga v396_9)), (9, .int v396_9), (8, .int (f_X4_greedyCauses xr gu ga)), (7, .int v396_7), (5, .int r34_v252_5), (3, .int r1_v15_3), (2, .int r15_v107_2), (1, .ref q2), (0, .ref x0)]) hx hb dL_causes_446 hl (by decide) rfl (fun ls hl => ?_)
                    refine lv_iconst (v := 0) hx hb dL_causes_448 (by decide) ?_
                    refine lv_istore (lv' := [(11, .int 0), (4, .int j61), (10, .int (f_L_greedy xr gu ga v396_9)), (9, .int v396_9), (8, .int (f_X4_greedyCauses xr gu ga)), (7, .int v396_7), (5, .int r34_v252_5), (3, .int r1_v15_3), (2, .int r15_v107_2), (1, .ref q2), (0, .ref x0)]) hx hb dL_causes_449 hl (by decide) rfl (fun ls hl => ?_)
                    obtain ⟨⟨r66_v451_4, r66_v451_11⟩, hL66⟩ : ∃ z, z = f_L_causes_L451 xr gu ga r1_v15_3 r1_c_q2_15 r15_v107_2 v396_7 v396_9 15 j61 (0 : Int32) := ⟨_, rfl⟩
                    rw [← hL66] at he
                    try dsimp only at he
                    have hpL66 := hp.1
                    replace hp := hp.2 _ _ hL66.symm
                    have kont66 : ∀ (x66_v451_4 : Int32) (x66_v451_11 : Int32), (r66_v451_4, r66_v451_11) = (x66_v451_4, x66_v451_11) → ∀ (H : Heap) (locs : List Loc), va_P D vwCl ((W_X4 cI x0 g0 g1 g2 g3 g4 l0 l1 l2 l3 l4 l5 t0 t1 t2 xr xt gn gu gb ga lc lk ln lt ll lr tw tn tt) ++ (W_A cI q2 r1_c_q2_15)) H → va_D A ((W_X4 cI x0 g0 g1 g2 g3 g4 l0 l1 l2 l3 l4 l5 t0 t1 t2 xr xt gn gu gb ga lc lk ln lt ll lr tw tn tt) ++ (W_A cI q2 r1_c_q2_15)) → va_S A s.heap H locs → ∀ ls : Array Slot, lv_has ls 16 [(4, .int x66_v451_4), (10, .int (f_L_greedy xr gu ga v396_9)), (9, .int v396_9), (8, .int (f_X4_greedyCauses xr gu ga)), (7, .int v396_7), (5, .int r34_v252_5), (3, .int r1_v15_3), (2, .int r15_v107_2), (1, .ref q2), (0, .ref x0)] → W p l e (headSpec wsL_causes rm_L_causes).room s m ([.ref x0] : List Value).toArray below meth c H locs (kc396 + 2) (ks396 + 9) (MQ below (Q_L_causes D cI x0 g0 g1 g2 g3 g4 l0 l1 l2 l3 l4 l5 t0 t1 t2 xr xt gn gu gb ga lc lk ln lt ll lr tw tn tt A) ([.ref x0] : List Value).toArray s 1095 6281 A) (F0 m 586 ls []) := by
                      intro x66_v451_4 x66_v451_11 hxe H locs hP hD hS ls hl
                      simp only [Prod.mk.injEq] at hxe
                      obtain ⟨rfl, rfl⟩ := hxe
                      refine lv_iload hx hb dL_causes_586 (lv_at hl 4 rfl) ?_
                      refine lv_iload hx hb dL_causes_588 (lv_at hl 0 rfl) ?_
                      obtain ⟨j89, hJ89⟩ : ∃ z : Int32, z = (if r66_v451_4 = 0 then v396_7 else ((r1_c_q2_15 ((f_L_greedy xr gu ga v396_9)).toNatClampNeg) ^^^ (-1))) := ⟨_, rfl⟩
                      rw [← hJ89] at he
                      try dsimp only at he
                      have hpJ89 := hp.1
                      replace hp := hp.2 _  hJ89.symm
                      have kont89 : ∀ (H : Heap) (locs : List Loc), va_P D vwCl ((W_X4 cI x0 g0 g1 g2 g3 g4 l0 l1 l2 l3 l4 l5 t0 t1 t2 xr xt gn gu gb ga lc lk ln lt ll lr tw tn tt) ++ (W_A cI q2 r1_c_q2_15)) H → va_D A ((W_X4 cI x0 g0 g1 g2 g3 g4 l0 l1 l2 l3 l4 l5 t0 t1 t2 xr xt gn gu gb ga lc lk ln lt ll lr tw tn tt) ++ (W_A cI q2 r1_c_q2_15)) → va_S A s.heap H locs → ∀ ls : Array Slot, lv_has ls 16 [(4, .int r66_v451_4), (9, .int v396_9), (8, .int (f_X4_greedyCauses xr gu ga)), (5, .int r34_v252_5), (3, .int r1_v15_3), (2, .int r15_v107_2), (1, .ref q2), (0, .ref x0)] → W p l e (headSpec wsL_causes rm_L_causes).room s m ([.ref x0] : List Value).toArray below meth c H locs (kc396 + 2) (ks396 + 9) (MQ below (Q_L_causes D cI x0 g0 g1 g2 g3 g4 l0 l1 l2 l3 l4 l5 t0 t1 t2 xr xt gn gu gb ga lc lk ln lt ll lr tw tn tt A) ([.ref x0] : List Value).toArray s 1095 6281 A) (F0 m 604 ls [.int j89, .int v396_7]) := by
                        intro H locs hP hD hS ls hl
                        refine lv_iand hx hb dL_causes_604 ?_
                        refine lv_istore (lv' := [(7, .int (v396_7 &&& j89)), (4, .int r66_v451_4), (9, .int v396_9), (8, .int (f_X4_greedyCauses xr gu ga)), (5, .int r34_v252_5), (3, .int r1_v15_3), (2, .int r15_v107_2), (1, .ref q2), (0, .ref x0)]) hx hb dL_causes_605 hl (by decide) rfl (fun ls hl => ?_)
                        refine lv_iinc (v := (v396_9 + 1)) (lv' := [(9, .int (v396_9 + 1)), (7, .int (v396_7 &&& j89)), (4, .int r66_v451_4), (8, .int (f_X4_greedyCauses xr gu ga)), (5, .int r34_v252_5), (3, .int r1_v15_3), (2, .int r15_v107_2), (1, .ref q2), (0, .ref x0)]) hx hb dL_causes_607 hl (k := 2) rfl rfl (by decide) rfl (fun ls hl => ?_)
                        refine lv_goto (tgt := 396) hx hb dL_causes_610 (by decide) ?_
                        refine W.widen (k := kc396 + 2) (n := ks396 + 9) (by omega) (by omega) ?_
                        exact ih _ _ _ (kc396 + 2) (ks396 + 9) (by omega) (by omega) hp he _ _ hP hD hS _ (lv_sub hl [0, 3, 1, 2, 4, 5, 6, 7, 8] rfl)
                      replace he := hJ89
                      replace hp := hpJ89
                      refine lv_if_eq (tgt := 602) hx hb dL_causes_590 (by decide) (fun c90 => ?_) (fun c90 => ?_)
                      · replace hp := hp.1 c90
                        replace he := he.trans (if_pos c90)
                        refine lv_iload hx hb dL_causes_602 (lv_at hl 4 rfl) ?_
                        subst he
                        exact kont89 _ _ hP hD hS _ (lv_sub hl [0, 2, 3, 5, 6, 7, 8, 9] rfl)
                      · replace hp := hp.2 c90
                        replace he := he.trans (if_neg c90)
                        refine lv_aload_n hx hb dL_causes_593 rfl (lv_at hl 8 rfl) ?_
                        refine lv_iload hx hb dL_causes_594 (lv_at hl 1 rfl) ?_
                        have h91 := hp.1
                        replace hp := hp.2
                        refine va_iald hx hb hK hP 15 0 rfl rfl h91 dL_causes_596 ?_
                        refine lv_iconst (v := (-1)) hx hb dL_causes_597 (by decide) ?_
                        refine lv_ixor hx hb dL_causes_598 ?_
                        refine lv_goto (tgt := 604) hx hb dL_causes_599 (by decide) ?_
                        subst he
                        exact kont89 _ _ hP hD hS _ (lv_sub hl [0, 2, 3, 5, 6, 7, 8, 9] rfl)
                    have loop66 : ∀ (n : Nat) (v451_4 : Int32) (v451_11 : Int32), p_L_causes_L451 xr gu ga r1_v15_3 r1_c_q2_15 r15_v107_2 v396_7 v396_9 n v451_4 v451_11 → (r66_v451_4, r66_v451_11) = f_L_causes_L451 xr gu ga r1_v15_3 r1_c_q2_15 r15_v107_2 v396_7 v396_9 n v451_4 v451_11 → ∀ (H : Heap) (locs : List Loc), va_P D vwCl ((W_X4 cI x0 g0 g1 g2 g3 g4 l0 l1 l2 l3 l4 l5 t0 t1 t2 xr xt gn gu gb ga lc lk ln lt ll lr tw tn tt) ++ (W_A cI q2 r1_c_q2_15)) H → va_D A ((W_X4 cI x0 g0 g1 g2 g3 g4 l0 l1 l2 l3 l4 l5 t0 t1 t2 xr xt gn gu gb ga lc lk ln lt ll lr tw tn tt) ++ (W_A cI q2 r1_c_q2_15)) → va_S A s.heap H locs → ∀ ls : Array Slot, lv_has ls 16 [(11, .int v451_11), (4, .int v451_4), (10, .int (f_L_greedy xr gu ga v396_9)), (9, .int v396_9), (8, .int (f_X4_greedyCauses xr gu ga)), (7, .int v396_7), (5, .int r34_v252_5), (3, .int r1_v15_3), (2, .int r15_v107_2), (1, .ref q2), (0, .ref x0)] → W p l e (headSpec wsL_causes rm_L_causes).room s m ([.ref x0] : List Value).toArray below meth c H locs (kc396 + 2) (ks396 + 9) (MQ below (Q_L_causes D cI x0 g0 g1 g2 g3 g4 l0 l1 l2 l3 l4 l5 t0 t1 t2 xr xt gn gu gb ga lc lk ln lt ll lr tw tn tt A) ([.ref x0] : List Value).toArray s 1095 6281 A) (F0 m 451 ls []) := by
                      intro n
                      induction n with
                      | zero => exact fun _ _ hp => hp.elim
                      | succ n ih =>
                        intro v451_4 v451_11 hp he H locs hP hD hS ls hl
                        replace hp := Eq.mp (p_L_causes_L451.eq_2 ..) hp
                        replace he := he.trans (f_L_causes_L451.eq_2 ..)
                        refine lv_iload hx hb dL_causes_451 (lv_at hl 0 rfl) ?_
                        refine lv_bipush (v := 14) hx hb dL_causes_453 (by decide) ?_
                        refine lv_icmp_ge (tgt := 586) hx hb dL_causes_455 (by decide) (fun c67 => ?_) (fun c67 => ?_)
                        · replace hp := hp.1 c67
                          replace he := he.trans (if_pos c67)
                          exact kont66 _ _ he _ _ hP hD hS _ (lv_sub hl [1, 2, 3, 4, 5, 6, 7, 8, 9, 10] rfl)
                        · replace hp := hp.2 c67
                          replace he := he.trans (if_neg c67)
                          refine lv_iload hx hb dL_causes_458 (lv_at hl 1 rfl) ?_
                          refine lv_if_eq (tgt := 586) hx hb dL_causes_460 (by decide) (fun c68 => ?_) (fun c68 => ?_)
                          · replace hp := hp.1 c68
                            replace he := he.trans (if_pos c68)
                            exact kont66 _ _ he _ _ hP hD hS _ (lv_sub hl [1, 2, 3, 4, 5, 6, 7, 8, 9, 10] rfl)
                          · replace hp := hp.2 c68
                            replace he := he.trans (if_neg c68)
                            refine lv_iload_n hx hb dL_causes_463 rfl (lv_at hl 8 rfl) ?_
                            refine lv_iload hx hb dL_causes_464 (lv_at hl 0 rfl) ?_
                            refine lv_ishr hx hb dL_causes_466 ?_
                            refine lv_iconst (v := 1) hx hb dL_causes_467 (by decide) ?_
                            refine lv_iand hx hb dL_causes_468 ?_
                            refine lv_iconst (v := 1) hx hb dL_causes_469 (by decide) ?_
                            obtain ⟨j69, hJ69⟩ : ∃ z : Int32, z = (if ((r15_v107_2 >>> (v451_11 &&& 31)) &&& 1) = 1 then (f_L_size ((r1_c_q2_15 (v451_11).toNatClampNeg) &&& v396_7)) else (0 : Int32)) := ⟨_, rfl⟩
                            rw [← hJ69] at he
                            try dsimp only at he
                            have hpJ69 := hp.1
                            replace hp := hp.2 _  hJ69.symm
                            have kont69 : ∀ (H : Heap) (locs : List Loc), va_P D vwCl ((W_X4 cI x0 g0 g1 g2 g3 g4 l0 l1 l2 l3 l4 l5 t0 t1 t2 xr xt gn gu gb ga lc lk ln lt ll lr tw tn tt) ++ (W_A cI q2 r1_c_q2_15)) H → va_D A ((W_X4 cI x0 g0 g1 g2 g3 g4 l0 l1 l2 l3 l4 l5 t0 t1 t2 xr xt gn gu gb ga lc lk ln lt ll lr tw tn tt) ++ (W_A cI q2 r1_c_q2_15)) → va_S A s.heap H locs → ∀ ls : Array Slot, lv_has ls 16 [(11, .int v451_11), (10, .int (f_L_greedy xr gu ga v396_9)), (9, .int v396_9), (8, .int (f_X4_greedyCauses xr gu ga)), (7, .int v396_7), (5, .int r34_v252_5), (3, .int r1_v15_3), (2, .int r15_v107_2), (1, .ref q2), (0, .ref x0)] → W p l e (headSpec wsL_causes rm_L_causes).room s m ([.ref x0] : List Value).toArray below meth c H locs (kc396 + 2) (ks396 + 9) (MQ below (Q_L_causes D cI x0 g0 g1 g2 g3 g4 l0 l1 l2 l3 l4 l5 t0 t1 t2 xr xt gn gu gb ga lc lk ln lt ll lr tw tn tt A) ([.ref x0] : List Value).toArray s 1095 6281 A) (F0 m 487 ls [.int j69]) := by
                              intro H locs hP hD hS ls hl
                              refine lv_istore (lv' := [(12, .int j69), (11, .int v451_11), (10, .int (f_L_greedy xr gu ga v396_9)), (9, .int v396_9), (8, .int (f_X4_greedyCauses xr gu ga)), (7, .int v396_7), (5, .int r34_v252_5), (3, .int r1_v15_3), (2, .int r15_v107_2), (1, .ref q2), (0, .ref x0)]) hx hb dL_causes_487 hl (by decide) rfl (fun ls hl => ?_)
                              refine lv_aload_n hx hb dL_causes_489 rfl (lv_at hl 9 rfl) ?_
                              refine lv_iload hx hb dL_causes_490 (lv_at hl 2 rfl) ?_
                              have h73 := hp.1
                              replace hp := hp.2
                              refine va_iald hx hb hK hP 15 0 rfl rfl h73 dL_causes_492 ?_
                              refine lv_iload hx hb dL_causes_493 (lv_at hl 5 rfl) ?_
                              refine lv_iand hx hb dL_causes_495 ?_
                              have hq74 := hp.1
                              replace hp := hp.2
                              refine k_calli (S := Unit) (wc := ([] : va_W)) (wr := ((W_X4 cI x0 g0 g1 g2 g3 g4 l0 l1 l2 l3 l4 l5 t0 t1 t2 xr xt gn gu gb ga lc lk ln lt ll lr tw tn tt) ++ (W_A cI q2 r1_c_q2_15))) (w1 := fun u => ([] : va_W)) (fun u => ((W_X4 cI x0 g0 g1 g2 g3 g4 l0 l1 l2 l3 l4 l5 t0 t1 t2 xr xt gn gu gb ga lc lk ln lt ll lr tw tn tt) ++ (W_A cI q2 r1_c_q2_15))) hP hK hD hN hS hA [] [0, 1, 2, 3, 4, 5, 6, 7, 8, 9, 10, 11, 12, 13, 14, 15] rfl rfl (by decide) (by decide) (by decide) [0, 1, 2, 3, 4, 5, 6, 7, 8, 9, 10, 11, 12, 13, 14, 15] (by decide) (fun _ => rfl) (fun hg => va_runS (As := [.int ((r1_c_q2_15 ((f_L_greedy xr gu ga v396_9)).toNatClampNeg) &&& v396_7)]) (rest := []) ⟨hx, hb, hml, hown, hts⟩ (c_L_size l D cI _ ((r1_c_q2_15 ((f_L_greedy xr gu ga v396_9)).toNatClampNeg) &&& v396_7) hq74) (va_cwS 1 hts gL_causes_L_size rfl rfl rfl (by decide +kernel) ⟨Nat.le_of_ble_eq_true rfl, Nat.le_of_ble_eq_true rfl⟩) ⟨PW.blind, fun U hU hW => ⟨rfl, hg U hU hW⟩⟩ rfl rfl hl.1 rfl (lv_room (Nat.le_of_ble_eq_true rfl)) dL_causes_496 ⟨(by show (kc396 + 2) + 0 ≤ 1095; omega), (by show (ks396 + 9) + 0 ≤ 6281; omega)⟩) (fun r74 u H locs hw hP hD hS => ?_)
                              subst hw
                              refine lv_topi (fun y75_13 hy75 => ?_)
                              rw [← hy75] at he
                              try dsimp only at he
                              replace hp := hp y75_13 hy75.symm
                              refine lv_istore (lv' := [(13, .int y75_13), (12, .int j69), (11, .int v451_11), (10, .int (f_L_greedy xr gu ga v396_9)), (9, .int v396_9), (8, .int (f_X4_greedyCauses xr gu ga)), (7, .int v396_7), (5, .int r34_v252_5), (3, .int r1_v15_3), (2, .int r15_v107_2), (1, .ref q2), (0, .ref x0)]) hx hb dL_causes_499 hl (by decide) rfl (fun ls hl => ?_)
                              refine lv_iload_n hx hb dL_causes_501 rfl (lv_at hl 8 rfl) ?_
                              refine lv_iload hx hb dL_causes_502 (lv_at hl 3 rfl) ?_
                              refine lv_ishr hx hb dL_causes_504 ?_
                              refine lv_iconst (v := 1) hx hb dL_causes_505 (by decide) ?_
                              refine lv_iand hx hb dL_causes_506 ?_
                              refine lv_iconst (v := 1) hx hb dL_causes_507 (by decide) ?_
                              obtain ⟨j76, hJ76⟩ : ∃ z : Int32, z = (if ((r1_v15_3 >>> ((f_L_greedy xr gu ga v396_9) &&& 31)) &&& 1) = 1 then (1 : Int32) else (0 : Int32)) := ⟨_, rfl⟩
                              rw [← hJ76] at he
                              try dsimp only at he
                              have hpJ76 := hp.1
                              replace hp := hp.2 _  hJ76.symm
                              have kont76 : (j76 = 0 ∨ j76 = 1) → ∀ (H : Heap) (locs : List Loc), va_P D vwCl ((W_X4 cI x0 g0 g1 g2 g3 g4 l0 l1 l2 l3 l4 l5 t0 t1 t2 xr xt gn gu gb ga lc lk ln lt ll lr tw tn tt) ++ (W_A cI q2 r1_c_q2_15)) H → va_D A ((W_X4 cI x0 g0 g1 g2 g3 g4 l0 l1 l2 l3 l4 l5 t0 t1 t2 xr xt gn gu gb ga lc lk ln lt ll lr tw tn tt) ++ (W_A cI q2 r1_c_q2_15)) → va_S A s.heap H locs → ∀ ls : Array Slot, lv_has ls 16 [(13, .int y75_13), (12, .int j69), (11, .int v451_11), (10, .int (f_L_greedy xr gu ga v396_9)), (9, .int v396_9), (8, .int (f_X4_greedyCauses xr gu ga)), (7, .int v396_7), (5, .int r34_v252_5), (3, .int r1_v15_3), (2, .int r15_v107_2), (1, .ref q2), (0, .ref x0)] → W p l e (headSpec wsL_causes rm_L_causes).room s m ([.ref x0] : List Value).toArray below meth c H locs (kc396 + 2) (ks396 + 9) (MQ below (Q_L_causes D cI x0 g0 g1 g2 g3 g4 l0 l1 l2 l3 l4 l5 t0 t1 t2 xr xt gn gu gb ga lc lk ln lt ll lr tw tn tt A) ([.ref x0] : List Value).toArray s 1095 6281 A) (F0 m 516 ls [.int j76]) := by
                                intro hb76 H locs hP hD hS ls hl
                                refine lv_istore (lv' := [(14, .int j76), (13, .int y75_13), (12, .int j69), (11, .int v451_11), (10, .int (f_L_greedy xr gu ga v396_9)), (9, .int v396_9), (8, .int (f_X4_greedyCauses xr gu ga)), (7, .int v396_7), (5, .int r34_v252_5), (3, .int r1_v15_3), (2, .int r15_v107_2), (1, .ref q2), (0, .ref x0)]) hx hb dL_causes_516 hl (by decide) rfl (fun ls hl => ?_)
                                refine lv_iload_n hx hb dL_causes_518 rfl (lv_at hl 9 rfl) ?_
                                refine lv_iload hx hb dL_causes_519 (lv_at hl 3 rfl) ?_
                                refine lv_ishr hx hb dL_causes_521 ?_
                                refine lv_iconst (v := 1) hx hb dL_causes_522 (by decide) ?_
                                refine lv_iand hx hb dL_causes_523 ?_
                                refine lv_iconst (v := 1) hx hb dL_causes_524 (by decide) ?_
                                obtain ⟨j78, hJ78⟩ : ∃ z : Int32, z = (if ((r1_v15_3 >>> (v451_11 &&& 31)) &&& 1) = 1 then (1 : Int32) else (0 : Int32)) := ⟨_, rfl⟩
                                rw [← hJ78] at he
                                try dsimp only at he
                                have hpJ78 := hp.1
                                replace hp := hp.2 _  hJ78.symm
                                have kont78 : (j78 = 0 ∨ j78 = 1) → ∀ (H : Heap) (locs : List Loc), va_P D vwCl ((W_X4 cI x0 g0 g1 g2 g3 g4 l0 l1 l2 l3 l4 l5 t0 t1 t2 xr xt gn gu gb ga lc lk ln lt ll lr tw tn tt) ++ (W_A cI q2 r1_c_q2_15)) H → va_D A ((W_X4 cI x0 g0 g1 g2 g3 g4 l0 l1 l2 l3 l4 l5 t0 t1 t2 xr xt gn gu gb ga lc lk ln lt ll lr tw tn tt) ++ (W_A cI q2 r1_c_q2_15)) → va_S A s.heap H locs → ∀ ls : Array Slot, lv_has ls 16 [(14, .int j76), (13, .int y75_13), (12, .int j69), (11, .int v451_11), (10, .int (f_L_greedy xr gu ga v396_9)), (9, .int v396_9), (8, .int (f_X4_greedyCauses xr gu ga)), (7, .int v396_7), (5, .int r34_v252_5), (3, .int r1_v15_3), (2, .int r15_v107_2), (1, .ref q2), (0, .ref x0)] → W p l e (headSpec wsL_causes rm_L_causes).room s m ([.ref x0] : List Value).toArray below meth c H locs (kc396 + 2) (ks396 + 9) (MQ below (Q_L_causes D cI x0 g0 g1 g2 g3 g4 l0 l1 l2 l3 l4 l5 t0 t1 t2 xr xt gn gu gb ga lc lk ln lt ll lr tw tn tt A) ([.ref x0] : List Value).toArray s 1095 6281 A) (F0 m 533 ls [.int j78]) := by
                                  intro hb78 H locs hP hD hS ls hl
                                  refine lv_istore (lv' := [(15, .int j78), (14, .int j76), (13, .int y75_13), (12, .int j69), (11, .int v451_11), (10, .int (f_L_greedy xr gu ga v396_9)), (9, .int v396_9), (8, .int (f_X4_greedyCauses xr gu ga)), (7, .int v396_7), (5, .int r34_v252_5), (3, .int r1_v15_3), (2, .int r15_v107_2), (1, .ref q2), (0, .ref x0)]) hx hb dL_causes_533 hl (by decide) rfl (fun ls hl => ?_)
                                  refine lv_iload hx hb dL_causes_535 (lv_at hl 3 rfl) ?_
                                  refine lv_iload hx hb dL_causes_537 (lv_at hl 2 rfl) ?_
                                  obtain ⟨j80, hJ80⟩ : ∃ z : Int32, z = (if j69 < y75_13 then (1 : Int32) else (if j69 = y75_13 then (if j76 = 0 then (if j76 = j78 then (if v451_11 < (f_L_greedy xr gu ga v396_9) then (0 : Int32) else (1 : Int32)) else (0 : Int32)) else (if j78 = 0 then (1 : Int32) else (if j76 = j78 then (if v451_11 < (f_L_greedy xr gu ga v396_9) then (0 : Int32) else (1 : Int32)) else (0 : Int32)))) else (0 : Int32))) := ⟨_, rfl⟩
                                  rw [← hJ80] at he
                                  try dsimp only at he
                                  have hpJ80 := hp.1
                                  replace hp := hp.2 _  hJ80.symm
                                  have kont80 : (j80 = 0 ∨ j80 = 1) → ∀ (H : Heap) (locs : List Loc), va_P D vwCl ((W_X4 cI x0 g0 g1 g2 g3 g4 l0 l1 l2 l3 l4 l5 t0 t1 t2 xr xt gn gu gb ga lc lk ln lt ll lr tw tn tt) ++ (W_A cI q2 r1_c_q2_15)) H → va_D A ((W_X4 cI x0 g0 g1 g2 g3 g4 l0 l1 l2 l3 l4 l5 t0 t1 t2 xr xt gn gu gb ga lc lk ln lt ll lr tw tn tt) ++ (W_A cI q2 r1_c_q2_15)) → va_S A s.heap H locs → ∀ ls : Array Slot, lv_has ls 16 [(11, .int v451_11), (10, .int (f_L_greedy xr gu ga v396_9)), (9, .int v396_9), (8, .int (f_X4_greedyCauses xr gu ga)), (7, .int v396_7), (5, .int r34_v252_5), (3, .int r1_v15_3), (2, .int r15_v107_2), (1, .ref q2), (0, .ref x0)] → W p l e (headSpec wsL_causes rm_L_causes).room s m ([.ref x0] : List Value).toArray below meth c H locs (kc396 + 2) (ks396 + 9) (MQ below (Q_L_causes D cI x0 g0 g1 g2 g3 g4 l0 l1 l2 l3 l4 l5 t0 t1 t2 xr xt gn gu gb ga lc lk ln lt ll lr tw tn tt A) ([.ref x0] : List Value).toArray s 1095 6281 A) (F0 m 578 ls [.int j80]) := by
                                    intro hb80 H locs hP hD hS ls hl
                                    refine lv_istore (lv' := [(4, .int j80), (11, .int v451_11), (10, .int (f_L_greedy xr gu ga v396_9)), (9, .int v396_9), (8, .int (f_X4_greedyCauses xr gu ga)), (7, .int v396_7), (5, .int r34_v252_5), (3, .int r1_v15_3), (2, .int r15_v107_2), (1, .ref q2), (0, .ref x0)]) hx hb dL_causes_578 hl (by decide) rfl (fun ls hl => ?_)
                                    refine lv_iinc (v := (v451_11 + 1)) (lv' := [(11, .int (v451_11 + 1)), (4, .int j80), (10, .int (f_L_greedy xr gu ga v396_9)), (9, .int v396_9), (8, .int (f_X4_greedyCauses xr gu ga)), (7, .int v396_7), (5, .int r34_v252_5), (3, .int r1_v15_3), (2, .int r15_v107_2), (1, .ref q2), (0, .ref x0)]) hx hb dL_causes_580 hl (k := 1) rfl rfl (by decide) rfl (fun ls hl => ?_)
                                    refine lv_goto (tgt := 451) hx hb dL_causes_583 (by decide) ?_
                                    exact ih _ _ hp he _ _ hP hD hS _ (lv_sub hl [0, 1, 2, 3, 4, 5, 6, 7, 8, 9, 10] rfl)
                                  replace he := hJ80
                                  replace hp := hpJ80
                                  refine lv_icmp_lt (tgt := 573) hx hb dL_causes_539 (by decide) (fun c81 => ?_) (fun c81 => ?_)
                                  · replace hp := hp.1 c81
                                    replace he := he.trans (if_pos c81)
                                    refine lv_iconst (v := 1) hx hb dL_causes_573 (by decide) ?_
                                    refine lv_goto (tgt := 578) hx hb dL_causes_574 (by decide) ?_
                                    subst he
                                    exact kont80 (Or.inr rfl) _ _ hP hD hS _ (lv_sub hl [4, 5, 6, 7, 8, 9, 10, 11, 12, 13] rfl)
                                  · replace hp := hp.2 c81
                                    replace he := he.trans (if_neg c81)
                                    refine lv_iload hx hb dL_causes_542 (lv_at hl 3 rfl) ?_
                                    refine lv_iload hx hb dL_causes_544 (lv_at hl 2 rfl) ?_
                                    refine lv_icmp_ne (tgt := 577) hx hb dL_causes_546 (by decide) (fun c82 => ?_) (fun c82 => ?_)
                                    · replace hp := hp.2 c82
                                      replace he := he.trans (if_neg c82)
                                      refine lv_iconst (v := 0) hx hb dL_causes_577 (by decide) ?_
                                      subst he
                                      exact kont80 (Or.inl rfl) _ _ hP hD hS _ (lv_sub hl [4, 5, 6, 7, 8, 9, 10, 11, 12, 13] rfl)
                                    · replace hp := hp.1 c82
                                      replace he := he.trans (if_pos c82)
                                      refine lv_iload hx hb dL_causes_549 (lv_at hl 1 rfl) ?_
                                      refine lv_if_eq (tgt := 559) hx hb dL_causes_551 (by decide) (fun c83 => ?_) (fun c83 => ?_)
                                      · replace hp := hp.1 c83
                                        replace he := he.trans (if_pos c83)
                                        refine lv_iload hx hb dL_causes_559 (lv_at hl 1 rfl) ?_
                                        refine lv_iload hx hb dL_causes_561 (lv_at hl 0 rfl) ?_
                                        refine lv_icmp_ne (tgt := 577) hx hb dL_causes_563 (by decide) (fun c84 => ?_) (fun c84 => ?_)
                                        · replace hp := hp.2 c84
                                          replace he := he.trans (if_neg c84)
                                          refine lv_iconst (v := 0) hx hb dL_causes_577 (by decide) ?_
                                          subst he
                                          exact kont80 (Or.inl rfl) _ _ hP hD hS _ (lv_sub hl [4, 5, 6, 7, 8, 9, 10, 11, 12, 13] rfl)
                                        · replace hp := hp.1 c84
                                          replace he := he.trans (if_pos c84)
                                          refine lv_iload hx hb dL_causes_566 (lv_at hl 5 rfl) ?_
                                          refine lv_iload hx hb dL_causes_568 (lv_at hl 4 rfl) ?_
                                          refine lv_icmp_gt (tgt := 577) hx hb dL_causes_570 (by decide) (fun c85 => ?_) (fun c85 => ?_)
                                          · replace hp := hp.1 c85
                                            replace he := he.trans (if_pos c85)
                                            refine lv_iconst (v := 0) hx hb dL_causes_577 (by decide) ?_
                                            subst he
                                            exact kont80 (Or.inl rfl) _ _ hP hD hS _ (lv_sub hl [4, 5, 6, 7, 8, 9, 10, 11, 12, 13] rfl)
                                          · replace hp := hp.2 c85
                                            replace he := he.trans (if_neg c85)
                                            refine lv_iconst (v := 1) hx hb dL_causes_573 (by decide) ?_
                                            refine lv_goto (tgt := 578) hx hb dL_causes_574 (by decide) ?_
                                            subst he
                                            exact kont80 (Or.inr rfl) _ _ hP hD hS _ (lv_sub hl [4, 5, 6, 7, 8, 9, 10, 11, 12, 13] rfl)
                                      · replace hp := hp.2 c83
                                        replace he := he.trans (if_neg c83)
                                        refine lv_iload hx hb dL_causes_554 (lv_at hl 0 rfl) ?_
                                        refine lv_if_eq (tgt := 573) hx hb dL_causes_556 (by decide) (fun c86 => ?_) (fun c86 => ?_)
                                        · replace hp := hp.1 c86
                                          replace he := he.trans (if_pos c86)
                                          refine lv_iconst (v := 1) hx hb dL_causes_573 (by decide) ?_
                                          refine lv_goto (tgt := 578) hx hb dL_causes_574 (by decide) ?_
                                          subst he
                                          exact kont80 (Or.inr rfl) _ _ hP hD hS _ (lv_sub hl [4, 5, 6, 7, 8, 9, 10, 11, 12, 13] rfl)
                                        · replace hp := hp.2 c86
                                          replace he := he.trans (if_neg c86)
                                          refine lv_iload hx hb dL_causes_559 (lv_at hl 1 rfl) ?_
                                          refine lv_iload hx hb dL_causes_561 (lv_at hl 0 rfl) ?_
                                          refine lv_icmp_ne (tgt := 577) hx hb dL_causes_563 (by decide) (fun c87 => ?_) (fun c87 => ?_)
                                          · replace hp := hp.2 c87
                                            replace he := he.trans (if_neg c87)
                                            refine lv_iconst (v := 0) hx hb dL_causes_577 (by decide) ?_
                                            subst he
                                            exact kont80 (Or.inl rfl) _ _ hP hD hS _ (lv_sub hl [4, 5, 6, 7, 8, 9, 10, 11, 12, 13] rfl)
                                          · replace hp := hp.1 c87
                                            replace he := he.trans (if_pos c87)
                                            refine lv_iload hx hb dL_causes_566 (lv_at hl 5 rfl) ?_
                                            refine lv_iload hx hb dL_causes_568 (lv_at hl 4 rfl) ?_
                                            refine lv_icmp_gt (tgt := 577) hx hb dL_causes_570 (by decide) (fun c88 => ?_) (fun c88 => ?_)
                                            · replace hp := hp.1 c88
                                              replace he := he.trans (if_pos c88)
                                              refine lv_iconst (v := 0) hx hb dL_causes_577 (by decide) ?_
                                              subst he
                                              exact kont80 (Or.inl rfl) _ _ hP hD hS _ (lv_sub hl [4, 5, 6, 7, 8, 9, 10, 11, 12, 13] rfl)
                                            · replace hp := hp.2 c88
                                              replace he := he.trans (if_neg c88)
                                              refine lv_iconst (v := 1) hx hb dL_causes_573 (by decide) ?_
                                              refine lv_goto (tgt := 578) hx hb dL_causes_574 (by decide) ?_
                                              subst he
                                              exact kont80 (Or.inr rfl) _ _ hP hD hS _ (lv_sub hl [4, 5, 6, 7, 8, 9, 10, 11, 12, 13] rfl)
                                replace he := hJ78
                                replace hp := hpJ78
                                refine lv_icmp_ne (tgt := 532) hx hb dL_causes_525 (by decide) (fun c79 => ?_) (fun c79 => ?_)
                                · replace hp := hp.2 c79
                                  replace he := he.trans (if_neg c79)
                                  refine lv_iconst (v := 0) hx hb dL_causes_532 (by decide) ?_
                                  subst he
                                  exact kont78 (Or.inl rfl) _ _ hP hD hS _ (lv_sub hl [0, 1, 2, 3, 4, 5, 6, 7, 8, 9, 10, 11, 12] rfl)
                                · replace hp := hp.1 c79
                                  replace he := he.trans (if_pos c79)
                                  refine lv_iconst (v := 1) hx hb dL_causes_528 (by decide) ?_
                                  refine lv_goto (tgt := 533) hx hb dL_causes_529 (by decide) ?_
                                  subst he
                                  exact kont78 (Or.inr rfl) _ _ hP hD hS _ (lv_sub hl [0, 1, 2, 3, 4, 5, 6, 7, 8, 9, 10, 11, 12] rfl)
                              replace he := hJ76
                              replace hp := hpJ76
                              refine lv_icmp_ne (tgt := 515) hx hb dL_causes_508 (by decide) (fun c77 => ?_) (fun c77 => ?_)
                              · replace hp := hp.2 c77
                                replace he := he.trans (if_neg c77)
                                refine lv_iconst (v := 0) hx hb dL_causes_515 (by decide) ?_
                                subst he
                                exact kont76 (Or.inl rfl) _ _ hP hD hS _ (lv_sub hl [0, 1, 2, 3, 4, 5, 6, 7, 8, 9, 10, 11] rfl)
                              · replace hp := hp.1 c77
                                replace he := he.trans (if_pos c77)
                                refine lv_iconst (v := 1) hx hb dL_causes_511 (by decide) ?_
                                refine lv_goto (tgt := 516) hx hb dL_causes_512 (by decide) ?_
                                subst he
                                exact kont76 (Or.inr rfl) _ _ hP hD hS _ (lv_sub hl [0, 1, 2, 3, 4, 5, 6, 7, 8, 9, 10, 11] rfl)
                            replace he := hJ69
                            replace hp := hpJ69
                            refine lv_icmp_ne (tgt := 486) hx hb dL_causes_470 (by decide) (fun c70 => ?_) (fun c70 => ?_)
                            · replace hp := hp.2 c70
                              replace he := he.trans (if_neg c70)
                              refine lv_iconst (v := 0) hx hb dL_causes_486 (by decide) ?_
                              subst he
                              exact kont69 _ _ hP hD hS _ (lv_sub hl [0, 2, 3, 4, 5, 6, 7, 8, 9, 10] rfl)
                            · replace hp := hp.1 c70
                              replace he := he.trans (if_pos c70)
                              refine lv_aload_n hx hb dL_causes_473 rfl (lv_at hl 9 rfl) ?_
                              refine lv_iload hx hb dL_causes_474 (lv_at hl 0 rfl) ?_
                              have h71 := hp.1
                              replace hp := hp.2
                              refine va_iald hx hb hK hP 15 0 rfl rfl h71 dL_causes_476 ?_
                              refine lv_iload hx hb dL_causes_477 (lv_at hl 5 rfl) ?_
                              refine lv_iand hx hb dL_causes_479 ?_
                              have hq72 := hp.1
                              replace hp := hp.2
                              refine k_calli (S := Unit) (wc := ([] : va_W)) (wr := ((W_X4 cI x0 g0 g1 g2 g3 g4 l0 l1 l2 l3 l4 l5 t0 t1 t2 xr xt gn gu gb ga lc lk ln lt ll lr tw tn tt) ++ (W_A cI q2 r1_c_q2_15))) (w1 := fun u => ([] : va_W)) (fun u => ((W_X4 cI x0 g0 g1 g2 g3 g4 l0 l1 l2 l3 l4 l5 t0 t1 t2 xr xt gn gu gb ga lc lk ln lt ll lr tw tn tt) ++ (W_A cI q2 r1_c_q2_15))) hP hK hD hN hS hA [] [0, 1, 2, 3, 4, 5, 6, 7, 8, 9, 10, 11, 12, 13, 14, 15] rfl rfl (by decide) (by decide) (by decide) [0, 1, 2, 3, 4, 5, 6, 7, 8, 9, 10, 11, 12, 13, 14, 15] (by decide) (fun _ => rfl) (fun hg => va_runS (As := [.int ((r1_c_q2_15 (v451_11).toNatClampNeg) &&& v396_7)]) (rest := []) ⟨hx, hb, hml, hown, hts⟩ (c_L_size l D cI _ ((r1_c_q2_15 (v451_11).toNatClampNeg) &&& v396_7) hq72) (va_cwS 1 hts gL_causes_L_size rfl rfl rfl (by decide +kernel) ⟨Nat.le_of_ble_eq_true rfl, Nat.le_of_ble_eq_true rfl⟩) ⟨PW.blind, fun U hU hW => ⟨rfl, hg U hU hW⟩⟩ rfl rfl hl.1 rfl (lv_room (Nat.le_of_ble_eq_true rfl)) dL_causes_480 ⟨(by show (kc396 + 2) + 0 ≤ 1095; omega), (by show (ks396 + 9) + 0 ≤ 6281; omega)⟩) (fun r72 u H locs hw hP hD hS => ?_)
                              subst hw
                              refine lv_goto (tgt := 487) hx hb dL_causes_483 (by decide) ?_
                              subst he
                              exact kont69 _ _ hP hD hS _ (lv_sub hl [0, 2, 3, 4, 5, 6, 7, 8, 9, 10] rfl)
                    exact loop66 15 j61 (0 : Int32) hpL66 hL66 _ _ hP hD hS _ (lv_sub hl [0, 1, 2, 3, 4, 5, 6, 7, 8, 9, 10] rfl)
                  replace he := hJ61
                  replace hp := hpJ61
                  refine lv_if_lt (tgt := 445) hx hb dL_causes_418 (by decide) (fun c62 => ?_) (fun c62 => ?_)
                  · replace hp := hp.1 c62
                    replace he := he.trans (if_pos c62)
                    refine lv_iconst (v := 0) hx hb dL_causes_445 (by decide) ?_
                    subst he
                    exact kont61 (Or.inl rfl) _ _ hP hD hS _ (lv_sub hl [0, 1, 2, 3, 5, 6, 7, 8, 9] rfl)
                  · replace hp := hp.2 c62
                    replace he := he.trans (if_neg c62)
                    refine lv_iload_n hx hb dL_causes_421 rfl (lv_at hl 7 rfl) ?_
                    refine lv_iload hx hb dL_causes_422 (lv_at hl 0 rfl) ?_
                    refine lv_ishr hx hb dL_causes_424 ?_
                    refine lv_iconst (v := 1) hx hb dL_causes_425 (by decide) ?_
                    refine lv_iand hx hb dL_causes_426 ?_
                    refine lv_iconst (v := 1) hx hb dL_causes_427 (by decide) ?_
                    refine lv_icmp_ne (tgt := 445) hx hb dL_causes_428 (by decide) (fun c63 => ?_) (fun c63 => ?_)
                    · replace hp := hp.2 c63
                      replace he := he.trans (if_neg c63)
                      refine lv_iconst (v := 0) hx hb dL_causes_445 (by decide) ?_
                      subst he
                      exact kont61 (Or.inl rfl) _ _ hP hD hS _ (lv_sub hl [0, 1, 2, 3, 5, 6, 7, 8, 9] rfl)
                    · replace hp := hp.1 c63
                      replace he := he.trans (if_pos c63)
                      refine lv_aload_n hx hb dL_causes_431 rfl (lv_at hl 8 rfl) ?_
                      refine lv_iload hx hb dL_causes_432 (lv_at hl 0 rfl) ?_
                      have h64 := hp.1
                      replace hp := hp.2
                      refine va_iald hx hb hK hP 15 0 rfl rfl h64 dL_causes_434 ?_
                      refine lv_iload hx hb dL_causes_435 (lv_at hl 3 rfl) ?_
                      refine lv_iand hx hb dL_causes_437 ?_
                      refine lv_if_eq (tgt := 445) hx hb dL_causes_438 (by decide) (fun c65 => ?_) (fun c65 => ?_)
                      · replace hp := hp.1 c65
                        replace he := he.trans (if_pos c65)
                        refine lv_iconst (v := 0) hx hb dL_causes_445 (by decide) ?_
                        subst he
                        exact kont61 (Or.inl rfl) _ _ hP hD hS _ (lv_sub hl [0, 1, 2, 3, 5, 6, 7, 8, 9] rfl)
                      · replace hp := hp.2 c65
                        replace he := he.trans (if_neg c65)
                        refine lv_iconst (v := 1) hx hb dL_causes_441 (by decide) ?_
                        refine lv_goto (tgt := 446) hx hb dL_causes_442 (by decide) ?_
                        subst he
                        exact kont61 (Or.inr rfl) _ _ hP hD hS _ (lv_sub hl [0, 1, 2, 3, 5, 6, 7, 8, 9] rfl)
          exact loop57 15 j44 r1_v15_3 (0 : Int32) 1030 5990 (Nat.le_refl _) (Nat.le_refl _) hpL57 hL57 _ _ hP hD hS _ (lv_sub hl [0, 1, 2, 3, 4, 5, 6, 7, 8] rfl)
        replace he := hJ44
        replace hp := hpJ44
        refine lv_if_eq (tgt := 381) hx hb dL_causes_327 (by decide) (fun c45 => ?_) (fun c45 => ?_)
        · replace hp := hp.1 c45
          replace he := he.trans (if_pos c45)
          refine lv_iconst (v := 0) hx hb dL_causes_381 (by decide) ?_
          subst he
          refine W.widen (k := 1029) (n := 5987) (by omega) (by omega) ?_
          exact kont44 (Or.inl rfl) _ _ hP hD hS _ (lv_sub hl [0, 2, 3, 4, 5] rfl)
        · replace hp := hp.2 c45
          replace he := he.trans (if_neg c45)
          refine lv_aload_n hx hb dL_causes_330 rfl (lv_at hl 5 rfl) ?_
          refine lv_aload_n hx hb dL_causes_331 rfl (lv_at hl 5 rfl) ?_
          have hq46 := hp.1
          replace hp := hp.2
          refine k_calli (S := Unit) (wc := (W_X4 cI x0 g0 g1 g2 g3 g4 l0 l1 l2 l3 l4 l5 t0 t1 t2 xr xt gn gu gb ga lc lk ln lt ll lr tw tn tt)) (wr := (W_A cI q2 r1_c_q2_15)) (w1 := fun u => (W_X4 cI x0 g0 g1 g2 g3 g4 l0 l1 l2 l3 l4 l5 t0 t1 t2 xr xt gn gu gb ga lc lk ln lt ll lr tw tn tt)) (fun u => ((W_X4 cI x0 g0 g1 g2 g3 g4 l0 l1 l2 l3 l4 l5 t0 t1 t2 xr xt gn gu gb ga lc lk ln lt ll lr tw tn tt) ++ (W_A cI q2 r1_c_q2_15))) hP hK hD hN hS hA [0, 1, 2, 3, 4, 5, 6, 7, 8, 9, 10, 11, 12, 13, 14] [15] rfl rfl (by decide) (by decide) (by decide) [1, 2, 3, 4, 5, 6, 7, 8, 9, 10, 11, 12, 13, 14, 15, 0] (by decide) (fun _ => rfl) (fun hg => va_runV (As := []) (rest := [.ref x0]) ⟨hx, hb, hml, hown, hts⟩ (c_X4_causes l D cI x0 g0 g1 g2 g3 g4 l0 l1 l2 l3 l4 l5 t0 t1 t2 xr xt gn gu gb ga lc lk ln lt ll lr tw tn tt _ hq46) (cwV 0 hts gL_causes_X4_causes rfl rfl rfl (by decide +kernel) ⟨Nat.le_of_ble_eq_true rfl, Nat.le_of_ble_eq_true rfl⟩) ⟨PW.blind, va_recv hK hP (ci := 4) (q0 := 0) rfl rfl, fun U hU hW => ⟨rfl, hg U hU hW⟩⟩ rfl rfl hl.1 rfl (lv_room (Nat.le_of_ble_eq_true rfl)) dL_causes_332 ⟨Nat.le_of_ble_eq_true rfl, Nat.le_of_ble_eq_true rfl⟩) (fun r46 u H locs hw hP hD hS => ?_)
          subst hw
          have hq47 := hp.1
          replace hp := hp.2
          refine k_ycalli (S := Unit) (wc := (W_X4 cI x0 g0 g1 g2 g3 g4 l0 l1 l2 l3 l4 l5 t0 t1 t2 xr xt gn gu gb ga lc lk ln lt ll lr tw tn tt)) (wr := (W_A cI q2 r1_c_q2_15)) (w1 := fun u => (W_X4 cI x0 g0 g1 g2 g3 g4 l0 l1 l2 l3 l4 l5 t0 t1 t2 xr xt gn gu gb ga lc lk ln lt ll lr tw tn tt)) (fun u => ((W_X4 cI x0 g0 g1 g2 g3 g4 l0 l1 l2 l3 l4 l5 t0 t1 t2 xr xt gn gu gb ga lc lk ln lt ll lr tw tn tt) ++ (W_A cI q2 r1_c_q2_15))) hP hK hD hN hXB hS hA [0, 1, 2, 3, 4, 5, 6, 7, 8, 9, 10, 11, 12, 13, 14] [15] rfl rfl (by decide) (by decide) (by decide) [1, 2, 3, 4, 5, 6, 7, 8, 9, 10, 11, 12, 13, 14, 15, 0] (by decide) (fun _ => rfl) (fun hg => vx_runSW (As := [.ref x0, .int (f_X4_causes xr gu gb ga)]) (rest := []) ⟨hx, hb, hml, hown, hts⟩ (c_L_cause l D cI x0 g0 g1 g2 g3 g4 l0 l1 l2 l3 l4 l5 t0 t1 t2 xr xt gn gu gb ga lc lk ln lt ll lr tw tn tt _ (f_X4_causes xr gu gb ga) hq47 hst) (vx_cwSW 2 hts gL_causes_L_cause rfl rfl rfl (by decide +kernel) ⟨Nat.le_of_ble_eq_true rfl, Nat.le_of_ble_eq_true rfl⟩) ⟨PX.blind, fun U hU hW => ⟨rfl, hg U hU hW⟩⟩ rfl rfl hl.1 rfl (lv_room (Nat.le_of_ble_eq_true rfl)) dL_causes_335 ⟨Nat.le_of_ble_eq_true rfl, Nat.le_of_ble_eq_true rfl⟩) (fun r47 u H locs hw hP hD hS => ?_)
          subst hw
          refine lv_bipush (v := (-101)) hx hb dL_causes_338 (by decide) ?_
          refine lv_icmp_ne (tgt := 381) hx hb dL_causes_340 (by decide) (fun c48 => ?_) (fun c48 => ?_)
          · replace hp := hp.2 c48
            replace he := he.trans (if_neg c48)
            refine lv_iconst (v := 0) hx hb dL_causes_381 (by decide) ?_
            subst he
            refine W.widen (k := 1029) (n := 5987) (by omega) (by omega) ?_
            exact kont44 (Or.inl rfl) _ _ hP hD hS _ (lv_sub hl [0, 2, 3, 4, 5] rfl)
          · replace hp := hp.1 c48
            replace he := he.trans (if_pos c48)
            refine lv_aload_n hx hb dL_causes_343 rfl (lv_at hl 5 rfl) ?_
            refine lv_aload_n hx hb dL_causes_344 rfl (lv_at hl 5 rfl) ?_
            have hq49 := hp.1
            replace hp := hp.2
            refine k_calli (S := Unit) (wc := (W_X4 cI x0 g0 g1 g2 g3 g4 l0 l1 l2 l3 l4 l5 t0 t1 t2 xr xt gn gu gb ga lc lk ln lt ll lr tw tn tt)) (wr := (W_A cI q2 r1_c_q2_15)) (w1 := fun u => (W_X4 cI x0 g0 g1 g2 g3 g4 l0 l1 l2 l3 l4 l5 t0 t1 t2 xr xt gn gu gb ga lc lk ln lt ll lr tw tn tt)) (fun u => ((W_X4 cI x0 g0 g1 g2 g3 g4 l0 l1 l2 l3 l4 l5 t0 t1 t2 xr xt gn gu gb ga lc lk ln lt ll lr tw tn tt) ++ (W_A cI q2 r1_c_q2_15))) hP hK hD hN hS hA [0, 1, 2, 3, 4, 5, 6, 7, 8, 9, 10, 11, 12, 13, 14] [15] rfl rfl (by decide) (by decide) (by decide) [1, 2, 3, 4, 5, 6, 7, 8, 9, 10, 11, 12, 13, 14, 15, 0] (by decide) (fun _ => rfl) (fun hg => va_runV (As := []) (rest := [.ref x0]) ⟨hx, hb, hml, hown, hts⟩ (c_X4_causes l D cI x0 g0 g1 g2 g3 g4 l0 l1 l2 l3 l4 l5 t0 t1 t2 xr xt gn gu gb ga lc lk ln lt ll lr tw tn tt _ hq49) (cwV 0 hts gL_causes_X4_causes rfl rfl rfl (by decide +kernel) ⟨Nat.le_of_ble_eq_true rfl, Nat.le_of_ble_eq_true rfl⟩) ⟨PW.blind, va_recv hK hP (ci := 4) (q0 := 0) rfl rfl, fun U hU hW => ⟨rfl, hg U hU hW⟩⟩ rfl rfl hl.1 rfl (lv_room (Nat.le_of_ble_eq_true rfl)) dL_causes_345 ⟨Nat.le_of_ble_eq_true rfl, Nat.le_of_ble_eq_true rfl⟩) (fun r49 u H locs hw hP hD hS => ?_)
            subst hw
            have hq50 := hp.1
            replace hp := hp.2
            refine k_ycalli (S := Unit) (wc := (W_X4 cI x0 g0 g1 g2 g3 g4 l0 l1 l2 l3 l4 l5 t0 t1 t2 xr xt gn gu gb ga lc lk ln lt ll lr tw tn tt)) (wr := (W_A cI q2 r1_c_q2_15)) (w1 := fun u => (W_X4 cI x0 g0 g1 g2 g3 g4 l0 l1 l2 l3 l4 l5 t0 t1 t2 xr xt gn gu gb ga lc lk ln lt ll lr tw tn tt)) (fun u => ((W_X4 cI x0 g0 g1 g2 g3 g4 l0 l1 l2 l3 l4 l5 t0 t1 t2 xr xt gn gu gb ga lc lk ln lt ll lr tw tn tt) ++ (W_A cI q2 r1_c_q2_15))) hP hK hD hN hXB hS hA [0, 1, 2, 3, 4, 5, 6, 7, 8, 9, 10, 11, 12, 13, 14] [15] rfl rfl (by decide) (by decide) (by decide) [1, 2, 3, 4, 5, 6, 7, 8, 9, 10, 11, 12, 13, 14, 15, 0] (by decide) (fun _ => rfl) (fun hg => vx_runSW (As := [.ref x0, .int (f_X4_causes xr gu gb ga)]) (rest := []) ⟨hx, hb, hml, hown, hts⟩ (c_L_tried l D cI x0 g0 g1 g2 g3 g4 l0 l1 l2 l3 l4 l5 t0 t1 t2 xr xt gn gu gb ga lc lk ln lt ll lr tw tn tt _ (f_X4_causes xr gu gb ga) hq50 hst) (vx_cwSW 2 hts gL_causes_L_tried rfl rfl rfl (by decide +kernel) ⟨Nat.le_of_ble_eq_true rfl, Nat.le_of_ble_eq_true rfl⟩) ⟨PX.blind, fun U hU hW => ⟨rfl, hg U hU hW⟩⟩ rfl rfl hl.1 rfl (lv_room (Nat.le_of_ble_eq_true rfl)) dL_causes_348 ⟨Nat.le_of_ble_eq_true rfl, Nat.le_of_ble_eq_true rfl⟩) (fun r50 u H locs hw hP hD hS => ?_)
            subst hw
            refine lv_bipush (v := (-101)) hx hb dL_causes_351 (by decide) ?_
            refine lv_icmp_ne (tgt := 381) hx hb dL_causes_353 (by decide) (fun c51 => ?_) (fun c51 => ?_)
            · replace hp := hp.2 c51
              replace he := he.trans (if_neg c51)
              refine lv_iconst (v := 0) hx hb dL_causes_381 (by decide) ?_
              subst he
              refine W.widen (k := 1029) (n := 5987) (by omega) (by omega) ?_
              exact kont44 (Or.inl rfl) _ _ hP hD hS _ (lv_sub hl [0, 2, 3, 4, 5] rfl)
            · replace hp := hp.1 c51
              replace he := he.trans (if_pos c51)
              refine lv_aload_n hx hb dL_causes_356 rfl (lv_at hl 5 rfl) ?_
              refine lv_iconst (v := (-1)) hx hb dL_causes_357 (by decide) ?_
              have hq52 := hp.1
              replace hp := hp.2
              refine k_ycalli (S := Unit) (wc := (W_X4 cI x0 g0 g1 g2 g3 g4 l0 l1 l2 l3 l4 l5 t0 t1 t2 xr xt gn gu gb ga lc lk ln lt ll lr tw tn tt)) (wr := (W_A cI q2 r1_c_q2_15)) (w1 := fun u => (W_X4 cI x0 g0 g1 g2 g3 g4 l0 l1 l2 l3 l4 l5 t0 t1 t2 xr xt gn gu gb ga lc lk ln lt ll lr tw tn tt)) (fun u => ((W_X4 cI x0 g0 g1 g2 g3 g4 l0 l1 l2 l3 l4 l5 t0 t1 t2 xr xt gn gu gb ga lc lk ln lt ll lr tw tn tt) ++ (W_A cI q2 r1_c_q2_15))) hP hK hD hN hXB hS hA [0, 1, 2, 3, 4, 5, 6, 7, 8, 9, 10, 11, 12, 13, 14] [15] rfl rfl (by decide) (by decide) (by decide) [1, 2, 3, 4, 5, 6, 7, 8, 9, 10, 11, 12, 13, 14, 15, 0] (by decide) (fun _ => rfl) (fun hg => vx_runSW (As := [.ref x0, .int (-1)]) (rest := []) ⟨hx, hb, hml, hown, hts⟩ (c_L_cause l D cI x0 g0 g1 g2 g3 g4 l0 l1 l2 l3 l4 l5 t0 t1 t2 xr xt gn gu gb ga lc lk ln lt ll lr tw tn tt _ (-1) hq52 hst) (vx_cwSW 2 hts gL_causes_L_cause rfl rfl rfl (by decide +kernel) ⟨Nat.le_of_ble_eq_true rfl, Nat.le_of_ble_eq_true rfl⟩) ⟨PX.blind, fun U hU hW => ⟨rfl, hg U hU hW⟩⟩ rfl rfl hl.1 rfl (lv_room (Nat.le_of_ble_eq_true rfl)) dL_causes_358 ⟨Nat.le_of_ble_eq_true rfl, Nat.le_of_ble_eq_true rfl⟩) (fun r52 u H locs hw hP hD hS => ?_)
              subst hw
              refine lv_bipush (v := (-101)) hx hb dL_causes_361 (by decide) ?_
              refine lv_icmp_ne (tgt := 381) hx hb dL_causes_363 (by decide) (fun c53 => ?_) (fun c53 => ?_)
              · replace hp := hp.2 c53
                replace he := he.trans (if_neg c53)
                refine lv_iconst (v := 0) hx hb dL_causes_381 (by decide) ?_
                subst he
                exact kont44 (Or.inl rfl) _ _ hP hD hS _ (lv_sub hl [0, 2, 3, 4, 5] rfl)
              · replace hp := hp.1 c53
                replace he := he.trans (if_pos c53)
                refine lv_aload_n hx hb dL_causes_366 rfl (lv_at hl 4 rfl) ?_
                refine lv_iload_n hx hb dL_causes_367 rfl (lv_at hl 3 rfl) ?_
                refine lv_iload_n hx hb dL_causes_368 rfl (lv_at hl 2 rfl) ?_
                refine lv_iload hx hb dL_causes_369 (lv_at hl 0 rfl) ?_
                have hq54 := hp.1
                replace hp := hp.2
                refine k_calli (S := Unit) (wc := (W_A cI q2 r1_c_q2_15)) (wr := (W_X4 cI x0 g0 g1 g2 g3 g4 l0 l1 l2 l3 l4 l5 t0 t1 t2 xr xt gn gu gb ga lc lk ln lt ll lr tw tn tt)) (w1 := fun u => (W_A cI q2 r1_c_q2_15)) (fun u => ((W_X4 cI x0 g0 g1 g2 g3 g4 l0 l1 l2 l3 l4 l5 t0 t1 t2 xr xt gn gu gb ga lc lk ln lt ll lr tw tn tt) ++ (W_A cI q2 r1_c_q2_15))) hP hK hD hN hS hA [15] [0, 1, 2, 3, 4, 5, 6, 7, 8, 9, 10, 11, 12, 13, 14] rfl rfl (by decide) (by decide) (by decide) [0, 1, 2, 3, 4, 5, 6, 7, 8, 9, 10, 11, 12, 13, 14, 15] (by decide) (fun _ => rfl) (fun hg => va_runS (As := [.ref q2, .int r15_v107_2, .int r1_v15_3, .int r34_v252_5]) (rest := []) ⟨hx, hb, hml, hown, hts⟩ (c_L_isBest l D cI q2 r1_c_q2_15 _ r15_v107_2 r1_v15_3 r34_v252_5 hq54) (va_cwS 4 hts gL_causes_L_isBest rfl rfl rfl (by decide +kernel) ⟨Nat.le_of_ble_eq_true rfl, Nat.le_of_ble_eq_true rfl⟩) ⟨PW.blind, fun U hU hW => ⟨rfl, hg U hU hW⟩⟩ rfl rfl hl.1 rfl (lv_room (Nat.le_of_ble_eq_true rfl)) dL_causes_371 ⟨Nat.le_of_ble_eq_true rfl, Nat.le_of_ble_eq_true rfl⟩) (fun r54 u H locs hw hP hD hS => ?_)
                obtain ⟨hw, hb54⟩ := hw
                subst hw
                refine lv_if_eq (tgt := 381) hx hb dL_causes_374 (by decide) (fun c55 => ?_) (fun c55 => ?_)
                · replace hp := hp.1 c55
                  replace he := he.trans (if_pos c55)
                  refine lv_iconst (v := 0) hx hb dL_causes_381 (by decide) ?_
                  subst he
                  exact kont44 (Or.inl rfl) _ _ hP hD hS _ (lv_sub hl [0, 2, 3, 4, 5] rfl)
                · replace hp := hp.2 c55
                  replace he := he.trans (if_neg c55)
                  refine lv_iconst (v := 1) hx hb dL_causes_377 (by decide) ?_
                  refine lv_goto (tgt := 382) hx hb dL_causes_378 (by decide) ?_
                  subst he
                  exact kont44 (Or.inr rfl) _ _ hP hD hS _ (lv_sub hl [0, 2, 3, 4, 5] rfl)
      have loop34 : ∀ (n : Nat) (v252_4 : Int32) (v252_5 : Int32) (v252_6 : Int32) (v252_7 : Int32), ∀ (kc252 ks252 : Nat), kc252 + n * 5 ≤ 1021 → ks252 + n * 21 ≤ 5954 → p_L_causes_L252 xr gu gb ga n v252_4 v252_5 v252_6 v252_7 → (r34_v252_4, r34_v252_5, r34_v252_6, r34_v252_7) = f_L_causes_L252 xr gu gb ga n v252_4 v252_5 v252_6 v252_7 → ∀ (H : Heap) (locs : List Loc), va_P D vwCl ((W_X4 cI x0 g0 g1 g2 g3 g4 l0 l1 l2 l3 l4 l5 t0 t1 t2 xr xt gn gu gb ga lc lk ln lt ll lr tw tn tt) ++ (W_A cI q2 r1_c_q2_15)) H → va_D A ((W_X4 cI x0 g0 g1 g2 g3 g4 l0 l1 l2 l3 l4 l5 t0 t1 t2 xr xt gn gu gb ga lc lk ln lt ll lr tw tn tt) ++ (W_A cI q2 r1_c_q2_15)) → va_S A s.heap H locs → ∀ ls : Array Slot, lv_has ls 16 [(7, .int v252_7), (6, .int v252_6), (5, .int v252_5), (4, .int v252_4), (3, .int r1_v15_3), (2, .int r15_v107_2), (1, .ref q2), (0, .ref x0)] → W p l e (headSpec wsL_causes rm_L_causes).room s m ([.ref x0] : List Value).toArray below meth c H locs kc252 ks252 (MQ below (Q_L_causes D cI x0 g0 g1 g2 g3 g4 l0 l1 l2 l3 l4 l5 t0 t1 t2 xr xt gn gu gb ga lc lk ln lt ll lr tw tn tt A) ([.ref x0] : List Value).toArray s 1095 6281 A) (F0 m 252 ls []) := by
        intro n
        induction n with
        | zero => exact fun _ _ _ _ _ _ _ _ hp => hp.elim
        | succ n ih =>
          intro v252_4 v252_5 v252_6 v252_7 kc252 ks252 hkc252 hks252 hp he H locs hP hD hS ls hl
          replace hp := Eq.mp (p_L_causes_L252.eq_2 ..) hp
          replace he := he.trans (f_L_causes_L252.eq_2 ..)
          refine lv_iload hx hb dL_causes_252 (lv_at hl 0 rfl) ?_
          refine lv_aload_n hx hb dL_causes_254 rfl (lv_at hl 7 rfl) ?_
          have hq35 := hp.1
          replace hp := hp.2
          refine k_calli (S := Unit) (wc := (W_X4 cI x0 g0 g1 g2 g3 g4 l0 l1 l2 l3 l4 l5 t0 t1 t2 xr xt gn gu gb ga lc lk ln lt ll lr tw tn tt)) (wr := (W_A cI q2 r1_c_q2_15)) (w1 := fun u => (W_X4 cI x0 g0 g1 g2 g3 g4 l0 l1 l2 l3 l4 l5 t0 t1 t2 xr xt gn gu gb ga lc lk ln lt ll lr tw tn tt)) (fun u => ((W_X4 cI x0 g0 g1 g2 g3 g4 l0 l1 l2 l3 l4 l5 t0 t1 t2 xr xt gn gu gb ga lc lk ln lt ll lr tw tn tt) ++ (W_A cI q2 r1_c_q2_15))) hP hK hD hN hS hA [0, 1, 2, 3, 4, 5, 6, 7, 8, 9, 10, 11, 12, 13, 14] [15] rfl rfl (by decide) (by decide) (by decide) [1, 2, 3, 4, 5, 6, 7, 8, 9, 10, 11, 12, 13, 14, 15, 0] (by decide) (fun _ => rfl) (fun hg => va_runV (As := []) (rest := [.int v252_7]) ⟨hx, hb, hml, hown, hts⟩ (c_X4_causes l D cI x0 g0 g1 g2 g3 g4 l0 l1 l2 l3 l4 l5 t0 t1 t2 xr xt gn gu gb ga lc lk ln lt ll lr tw tn tt _ hq35) (cwV 0 hts gL_causes_X4_causes rfl rfl rfl (by decide +kernel) ⟨Nat.le_of_ble_eq_true rfl, Nat.le_of_ble_eq_true rfl⟩) ⟨PW.blind, va_recv hK hP (ci := 4) (q0 := 0) rfl rfl, fun U hU hW => ⟨rfl, hg U hU hW⟩⟩ rfl rfl hl.1 rfl (lv_room (Nat.le_of_ble_eq_true rfl)) dL_causes_255 ⟨(by show kc252 + 1 ≤ 1095; omega), (by show ks252 + 3 ≤ 6281; omega)⟩) (fun r35 u H locs hw hP hD hS => ?_)
          subst hw
          refine lv_icmp_ge (tgt := 325) hx hb dL_causes_258 (by decide) (fun c36 => ?_) (fun c36 => ?_)
          · replace hp := hp.1 c36
            replace he := he.trans (if_pos c36)
            refine W.widen (k := 1021) (n := 5954) (by omega) (by omega) ?_
            exact kont34 _ _ _ _ he _ _ hP hD hS _ (lv_sub hl [2, 3, 4, 5, 6, 7] rfl)
          · replace hp := hp.2 c36
            replace he := he.trans (if_neg c36)
            refine lv_iload hx hb dL_causes_261 (lv_at hl 3 rfl) ?_
            refine lv_if_eq (tgt := 325) hx hb dL_causes_263 (by decide) (fun c37 => ?_) (fun c37 => ?_)
            · replace hp := hp.1 c37
              replace he := he.trans (if_pos c37)
              refine W.widen (k := 1021) (n := 5954) (by omega) (by omega) ?_
              exact kont34 _ _ _ _ he _ _ hP hD hS _ (lv_sub hl [2, 3, 4, 5, 6, 7] rfl)
            · replace hp := hp.2 c37
              replace he := he.trans (if_neg c37)
              refine lv_aload_n hx hb dL_causes_266 rfl (lv_at hl 7 rfl) ?_
              refine lv_iload hx hb dL_causes_267 (lv_at hl 0 rfl) ?_
              have hq38 := hp.1
              replace hp := hp.2
              refine k_ycalli (S := Unit) (wc := (W_X4 cI x0 g0 g1 g2 g3 g4 l0 l1 l2 l3 l4 l5 t0 t1 t2 xr xt gn gu gb ga lc lk ln lt ll lr tw tn tt)) (wr := (W_A cI q2 r1_c_q2_15)) (w1 := fun u => (W_X4 cI x0 g0 g1 g2 g3 g4 l0 l1 l2 l3 l4 l5 t0 t1 t2 xr xt gn gu gb ga lc lk ln lt ll lr tw tn tt)) (fun u => ((W_X4 cI x0 g0 g1 g2 g3 g4 l0 l1 l2 l3 l4 l5 t0 t1 t2 xr xt gn gu gb ga lc lk ln lt ll lr tw tn tt) ++ (W_A cI q2 r1_c_q2_15))) hP hK hD hN hXB hS hA [0, 1, 2, 3, 4, 5, 6, 7, 8, 9, 10, 11, 12, 13, 14] [15] rfl rfl (by decide) (by decide) (by decide) [1, 2, 3, 4, 5, 6, 7, 8, 9, 10, 11, 12, 13, 14, 15, 0] (by decide) (fun _ => rfl) (fun hg => vx_runSW (As := [.ref x0, .int v252_7]) (rest := []) ⟨hx, hb, hml, hown, hts⟩ (c_L_cause l D cI x0 g0 g1 g2 g3 g4 l0 l1 l2 l3 l4 l5 t0 t1 t2 xr xt gn gu gb ga lc lk ln lt ll lr tw tn tt _ v252_7 hq38 hst) (vx_cwSW 2 hts gL_causes_L_cause rfl rfl rfl (by decide +kernel) ⟨Nat.le_of_ble_eq_true rfl, Nat.le_of_ble_eq_true rfl⟩) ⟨PX.blind, fun U hU hW => ⟨rfl, hg U hU hW⟩⟩ rfl rfl hl.1 rfl (lv_room (Nat.le_of_ble_eq_true rfl)) dL_causes_269 ⟨(by show (kc252 + 1) + 2 ≤ 1095; omega), (by show (ks252 + 3) + 9 ≤ 6281; omega)⟩) (fun r38 u H locs hw hP hD hS => ?_)
              subst hw
              refine lv_istore (lv' := [(8, .int (f_L_cause xr gu gb ga v252_7)), (7, .int v252_7), (6, .int v252_6), (5, .int v252_5), (4, .int v252_4), (3, .int r1_v15_3), (2, .int r15_v107_2), (1, .ref q2), (0, .ref x0)]) hx hb dL_causes_272 hl (by decide) rfl (fun ls hl => ?_)
              refine lv_iload hx hb dL_causes_274 (lv_at hl 0 rfl) ?_
              refine lv_iload hx hb dL_causes_276 (lv_at hl 2 rfl) ?_
              obtain ⟨j39, hJ39⟩ : ∃ z : Int32, z = (if (f_L_cause xr gu gb ga v252_7) ≤ v252_6 then (0 : Int32) else (if 14 ≤ (f_L_cause xr gu gb ga v252_7) then (0 : Int32) else (if (f_L_tried xr gu gb v252_7) = (f_L_cause xr gu gb ga v252_7) then (1 : Int32) else (0 : Int32)))) := ⟨_, rfl⟩
              rw [← hJ39] at he
              try dsimp only at he
              have hpJ39 := hp.1
              replace hp := hp.2 _  hJ39.symm
              have kont39 : (j39 = 0 ∨ j39 = 1) → ∀ (H : Heap) (locs : List Loc), va_P D vwCl ((W_X4 cI x0 g0 g1 g2 g3 g4 l0 l1 l2 l3 l4 l5 t0 t1 t2 xr xt gn gu gb ga lc lk ln lt ll lr tw tn tt) ++ (W_A cI q2 r1_c_q2_15)) H → va_D A ((W_X4 cI x0 g0 g1 g2 g3 g4 l0 l1 l2 l3 l4 l5 t0 t1 t2 xr xt gn gu gb ga lc lk ln lt ll lr tw tn tt) ++ (W_A cI q2 r1_c_q2_15)) → va_S A s.heap H locs → ∀ ls : Array Slot, lv_has ls 16 [(8, .int (f_L_cause xr gu gb ga v252_7)), (7, .int v252_7), (5, .int v252_5), (3, .int r1_v15_3), (2, .int r15_v107_2), (1, .ref q2), (0, .ref x0)] → W p l e (headSpec wsL_causes rm_L_causes).room s m ([.ref x0] : List Value).toArray below meth c H locs (kc252 + 5) (ks252 + 21) (MQ below (Q_L_causes D cI x0 g0 g1 g2 g3 g4 l0 l1 l2 l3 l4 l5 t0 t1 t2 xr xt gn gu gb ga lc lk ln lt ll lr tw tn tt A) ([.ref x0] : List Value).toArray s 1095 6281 A) (F0 m 304 ls [.int j39]) := by
                intro hb39 H locs hP hD hS ls hl
                refine lv_istore (lv' := [(4, .int j39), (8, .int (f_L_cause xr gu gb ga v252_7)), (7, .int v252_7), (5, .int v252_5), (3, .int r1_v15_3), (2, .int r15_v107_2), (1, .ref q2), (0, .ref x0)]) hx hb dL_causes_304 hl (by decide) rfl (fun ls hl => ?_)
                refine lv_iload hx hb dL_causes_306 (lv_at hl 1 rfl) ?_
                refine lv_istore (lv' := [(6, .int (f_L_cause xr gu gb ga v252_7)), (4, .int j39), (8, .int (f_L_cause xr gu gb ga v252_7)), (7, .int v252_7), (5, .int v252_5), (3, .int r1_v15_3), (2, .int r15_v107_2), (1, .ref q2), (0, .ref x0)]) hx hb dL_causes_308 hl (by decide) rfl (fun ls hl => ?_)
                refine lv_iload hx hb dL_causes_310 (lv_at hl 4 rfl) ?_
                refine lv_iconst (v := 1) hx hb dL_causes_312 (by decide) ?_
                refine lv_iload hx hb dL_causes_313 (lv_at hl 2 rfl) ?_
                refine lv_ishl hx hb dL_causes_315 ?_
                refine lv_ior hx hb dL_causes_316 ?_
                refine lv_istore (lv' := [(5, .int (v252_5 ||| (1 <<< ((f_L_cause xr gu gb ga v252_7) &&& 31)))), (6, .int (f_L_cause xr gu gb ga v252_7)), (4, .int j39), (8, .int (f_L_cause xr gu gb ga v252_7)), (7, .int v252_7), (3, .int r1_v15_3), (2, .int r15_v107_2), (1, .ref q2), (0, .ref x0)]) hx hb dL_causes_317 hl (by decide) rfl (fun ls hl => ?_)
                refine lv_iinc (v := (v252_7 + 1)) (lv' := [(7, .int (v252_7 + 1)), (5, .int (v252_5 ||| (1 <<< ((f_L_cause xr gu gb ga v252_7) &&& 31)))), (6, .int (f_L_cause xr gu gb ga v252_7)), (4, .int j39), (8, .int (f_L_cause xr gu gb ga v252_7)), (3, .int r1_v15_3), (2, .int r15_v107_2), (1, .ref q2), (0, .ref x0)]) hx hb dL_causes_319 hl (k := 4) rfl rfl (by decide) rfl (fun ls hl => ?_)
                refine lv_goto (tgt := 252) hx hb dL_causes_322 (by decide) ?_
                refine W.widen (k := kc252 + 5) (n := ks252 + 21) (by omega) (by omega) ?_
                exact ih _ _ _ _ (kc252 + 5) (ks252 + 21) (by omega) (by omega) hp he _ _ hP hD hS _ (lv_sub hl [0, 2, 1, 3, 5, 6, 7, 8] rfl)
              replace he := hJ39
              replace hp := hpJ39
              refine lv_icmp_le (tgt := 303) hx hb dL_causes_278 (by decide) (fun c40 => ?_) (fun c40 => ?_)
              · replace hp := hp.1 c40
                replace he := he.trans (if_pos c40)
                refine lv_iconst (v := 0) hx hb dL_causes_303 (by decide) ?_
                subst he
                refine W.widen (k := (kc252 + 5)) (n := (ks252 + 21)) (by omega) (by omega) ?_
                exact kont39 (Or.inl rfl) _ _ hP hD hS _ (lv_sub hl [0, 1, 3, 5, 6, 7, 8] rfl)
              · replace hp := hp.2 c40
                replace he := he.trans (if_neg c40)
                refine lv_iload hx hb dL_causes_281 (lv_at hl 0 rfl) ?_
                refine lv_bipush (v := 14) hx hb dL_causes_283 (by decide) ?_
                refine lv_icmp_ge (tgt := 303) hx hb dL_causes_285 (by decide) (fun c41 => ?_) (fun c41 => ?_)
                · replace hp := hp.1 c41
                  replace he := he.trans (if_pos c41)
                  refine lv_iconst (v := 0) hx hb dL_causes_303 (by decide) ?_
                  subst he
                  refine W.widen (k := (kc252 + 5)) (n := (ks252 + 21)) (by omega) (by omega) ?_
                  exact kont39 (Or.inl rfl) _ _ hP hD hS _ (lv_sub hl [0, 1, 3, 5, 6, 7, 8] rfl)
                · replace hp := hp.2 c41
                  replace he := he.trans (if_neg c41)
                  refine lv_aload_n hx hb dL_causes_288 rfl (lv_at hl 8 rfl) ?_
                  refine lv_iload hx hb dL_causes_289 (lv_at hl 1 rfl) ?_
                  have hq42 := hp.1
                  replace hp := hp.2
                  refine k_ycalli (S := Unit) (wc := (W_X4 cI x0 g0 g1 g2 g3 g4 l0 l1 l2 l3 l4 l5 t0 t1 t2 xr xt gn gu gb ga lc lk ln lt ll lr tw tn tt)) (wr := (W_A cI q2 r1_c_q2_15)) (w1 := fun u => (W_X4 cI x0 g0 g1 g2 g3 g4 l0 l1 l2 l3 l4 l5 t0 t1 t2 xr xt gn gu gb ga lc lk ln lt ll lr tw tn tt)) (fun u => ((W_X4 cI x0 g0 g1 g2 g3 g4 l0 l1 l2 l3 l4 l5 t0 t1 t2 xr xt gn gu gb ga lc lk ln lt ll lr tw tn tt) ++ (W_A cI q2 r1_c_q2_15))) hP hK hD hN hXB hS hA [0, 1, 2, 3, 4, 5, 6, 7, 8, 9, 10, 11, 12, 13, 14] [15] rfl rfl (by decide) (by decide) (by decide) [1, 2, 3, 4, 5, 6, 7, 8, 9, 10, 11, 12, 13, 14, 15, 0] (by decide) (fun _ => rfl) (fun hg => vx_runSW (As := [.ref x0, .int v252_7]) (rest := []) ⟨hx, hb, hml, hown, hts⟩ (c_L_tried l D cI x0 g0 g1 g2 g3 g4 l0 l1 l2 l3 l4 l5 t0 t1 t2 xr xt gn gu gb ga lc lk ln lt ll lr tw tn tt _ v252_7 hq42 hst) (vx_cwSW 2 hts gL_causes_L_tried rfl rfl rfl (by decide +kernel) ⟨Nat.le_of_ble_eq_true rfl, Nat.le_of_ble_eq_true rfl⟩) ⟨PX.blind, fun U hU hW => ⟨rfl, hg U hU hW⟩⟩ rfl rfl hl.1 rfl (lv_room (Nat.le_of_ble_eq_true rfl)) dL_causes_291 ⟨(by show (kc252 + 3) + 2 ≤ 1095; omega), (by show (ks252 + 12) + 9 ≤ 6281; omega)⟩) (fun r42 u H locs hw hP hD hS => ?_)
                  subst hw
                  refine lv_iload hx hb dL_causes_294 (lv_at hl 0 rfl) ?_
                  refine lv_icmp_ne (tgt := 303) hx hb dL_causes_296 (by decide) (fun c43 => ?_) (fun c43 => ?_)
                  · replace hp := hp.2 c43
                    replace he := he.trans (if_neg c43)
                    refine lv_iconst (v := 0) hx hb dL_causes_303 (by decide) ?_
                    subst he
                    exact kont39 (Or.inl rfl) _ _ hP hD hS _ (lv_sub hl [0, 1, 3, 5, 6, 7, 8] rfl)
                  · replace hp := hp.1 c43
                    replace he := he.trans (if_pos c43)
                    refine lv_iconst (v := 1) hx hb dL_causes_299 (by decide) ?_
                    refine lv_goto (tgt := 304) hx hb dL_causes_300 (by decide) ?_
                    subst he
                    exact kont39 (Or.inr rfl) _ _ hP hD hS _ (lv_sub hl [0, 1, 3, 5, 6, 7, 8] rfl)
      exact loop34 15 r15_v107_4 (0 : Int32) ((-1) : Int32) (0 : Int32) 946 5639 (Nat.le_refl _) (Nat.le_refl _) hpL34 hL34 _ _ hP hD hS _ (lv_sub hl [0, 1, 2, 3, 4, 5, 6, 7] rfl)
    have loop15 : ∀ (n : Nat) (v107_2 : Int32) (v107_4 : Int32) (v107_5 : Int32), ∀ (kc107 ks107 : Nat), kc107 + n * 32 ≤ 946 → ks107 + n * 189 ≤ 5639 → p_L_causes_L107 xr gn gu r1_v15_3 n v107_2 v107_4 v107_5 → (r15_v107_2, r15_v107_4, r15_v107_5) = f_L_causes_L107 xr gn gu r1_v15_3 n v107_2 v107_4 v107_5 → ∀ (H : Heap) (locs : List Loc), va_P D vwCl ((W_X4 cI x0 g0 g1 g2 g3 g4 l0 l1 l2 l3 l4 l5 t0 t1 t2 xr xt gn gu gb ga lc lk ln lt ll lr tw tn tt) ++ (W_A cI q2 r1_c_q2_15)) H → va_D A ((W_X4 cI x0 g0 g1 g2 g3 g4 l0 l1 l2 l3 l4 l5 t0 t1 t2 xr xt gn gu gb ga lc lk ln lt ll lr tw tn tt) ++ (W_A cI q2 r1_c_q2_15)) → va_S A s.heap H locs → ∀ ls : Array Slot, lv_has ls 16 [(5, .int v107_5), (4, .int v107_4), (3, .int r1_v15_3), (2, .int v107_2), (1, .ref q2), (0, .ref x0)] → W p l e (headSpec wsL_causes rm_L_causes).room s m ([.ref x0] : List Value).toArray below meth c H locs kc107 ks107 (MQ below (Q_L_causes D cI x0 g0 g1 g2 g3 g4 l0 l1 l2 l3 l4 l5 t0 t1 t2 xr xt gn gu gb ga lc lk ln lt ll lr tw tn tt A) ([.ref x0] : List Value).toArray s 1095 6281 A) (F0 m 107 ls []) := by
      intro n
      induction n with
      | zero => exact fun _ _ _ _ _ _ _ hp => hp.elim
      | succ n ih =>
        intro v107_2 v107_4 v107_5 kc107 ks107 hkc107 hks107 hp he H locs hP hD hS ls hl
        replace hp := Eq.mp (p_L_causes_L107.eq_2 ..) hp
        replace he := he.trans (f_L_causes_L107.eq_2 ..)
        refine lv_iload hx hb dL_causes_107 (lv_at hl 0 rfl) ?_
        refine lv_bipush (v := 14) hx hb dL_causes_109 (by decide) ?_
        refine lv_icmp_ge (tgt := 243) hx hb dL_causes_111 (by decide) (fun c16 => ?_) (fun c16 => ?_)
        · replace hp := hp.1 c16
          replace he := he.trans (if_pos c16)
          refine W.widen (k := 946) (n := 5639) (by omega) (by omega) ?_
          exact kont15 _ _ _ he _ _ hP hD hS _ (lv_sub hl [1, 2, 3, 4, 5] rfl)
        · replace hp := hp.2 c16
          replace he := he.trans (if_neg c16)
          refine lv_iload hx hb dL_causes_114 (lv_at hl 1 rfl) ?_
          refine lv_if_eq (tgt := 243) hx hb dL_causes_116 (by decide) (fun c17 => ?_) (fun c17 => ?_)
          · replace hp := hp.1 c17
            replace he := he.trans (if_pos c17)
            refine W.widen (k := 946) (n := 5639) (by omega) (by omega) ?_
            exact kont15 _ _ _ he _ _ hP hD hS _ (lv_sub hl [1, 2, 3, 4, 5] rfl)
          · replace hp := hp.2 c17
            replace he := he.trans (if_neg c17)
            refine lv_iconst (v := 0) hx hb dL_causes_119 (by decide) ?_
            refine lv_istore (lv' := [(6, .int 0), (5, .int v107_5), (4, .int v107_4), (3, .int r1_v15_3), (2, .int v107_2), (1, .ref q2), (0, .ref x0)]) hx hb dL_causes_120 hl (by decide) rfl (fun ls hl => ?_)
            refine lv_iconst (v := 0) hx hb dL_causes_122 (by decide) ?_
            refine lv_istore (lv' := [(7, .int 0), (6, .int 0), (5, .int v107_5), (4, .int v107_4), (3, .int r1_v15_3), (2, .int v107_2), (1, .ref q2), (0, .ref x0)]) hx hb dL_causes_123 hl (by decide) rfl (fun ls hl => ?_)
            obtain ⟨⟨r18_v125_6, r18_v125_7⟩, hL18⟩ : ∃ z, z = f_L_causes_L125 gn v107_5 15 (0 : Int32) (0 : Int32) := ⟨_, rfl⟩
            rw [← hL18] at he
            try dsimp only at he
            have hpL18 := hp.1
            replace hp := hp.2 _ _ hL18.symm
            have kont18 : ∀ (x18_v125_6 : Int32) (x18_v125_7 : Int32), (r18_v125_6, r18_v125_7) = (x18_v125_6, x18_v125_7) → ∀ (H : Heap) (locs : List Loc), va_P D vwCl ((W_X4 cI x0 g0 g1 g2 g3 g4 l0 l1 l2 l3 l4 l5 t0 t1 t2 xr xt gn gu gb ga lc lk ln lt ll lr tw tn tt) ++ (W_A cI q2 r1_c_q2_15)) H → va_D A ((W_X4 cI x0 g0 g1 g2 g3 g4 l0 l1 l2 l3 l4 l5 t0 t1 t2 xr xt gn gu gb ga lc lk ln lt ll lr tw tn tt) ++ (W_A cI q2 r1_c_q2_15)) → va_S A s.heap H locs → ∀ ls : Array Slot, lv_has ls 16 [(6, .int x18_v125_6), (5, .int v107_5), (3, .int r1_v15_3), (2, .int v107_2), (1, .ref q2), (0, .ref x0)] → W p l e (headSpec wsL_causes rm_L_causes).room s m ([.ref x0] : List Value).toArray below meth c H locs (kc107 + 30) (ks107 + 180) (MQ below (Q_L_causes D cI x0 g0 g1 g2 g3 g4 l0 l1 l2 l3 l4 l5 t0 t1 t2 xr xt gn gu gb ga lc lk ln lt ll lr tw tn tt A) ([.ref x0] : List Value).toArray s 1095 6281 A) (F0 m 163 ls []) := by
              intro x18_v125_6 x18_v125_7 hxe H locs hP hD hS ls hl
              simp only [Prod.mk.injEq] at hxe
              obtain ⟨rfl, rfl⟩ := hxe
              refine lv_iload_n hx hb dL_causes_163 rfl (lv_at hl 2 rfl) ?_
              refine lv_iload hx hb dL_causes_164 (lv_at hl 1 rfl) ?_
              refine lv_ishr hx hb dL_causes_166 ?_
              refine lv_iconst (v := 1) hx hb dL_causes_167 (by decide) ?_
              refine lv_iand hx hb dL_causes_168 ?_
              refine lv_iconst (v := 1) hx hb dL_causes_169 (by decide) ?_
              obtain ⟨j23, hJ23⟩ : ∃ z : Int32, z = (if ((r1_v15_3 >>> (v107_5 &&& 31)) &&& 1) = 1 then (1 : Int32) else (if r18_v125_6 ≤ 0 then (0 : Int32) else (if (r18_v125_6 &&& (r1_v15_3 ^^^ (-1))) = 0 then (1 : Int32) else (0 : Int32)))) := ⟨_, rfl⟩
              rw [← hJ23] at he
              try dsimp only at he
              have hpJ23 := hp.1
              replace hp := hp.2 _  hJ23.symm
              have kont23 : (j23 = 0 ∨ j23 = 1) → ∀ (H : Heap) (locs : List Loc), va_P D vwCl ((W_X4 cI x0 g0 g1 g2 g3 g4 l0 l1 l2 l3 l4 l5 t0 t1 t2 xr xt gn gu gb ga lc lk ln lt ll lr tw tn tt) ++ (W_A cI q2 r1_c_q2_15)) H → va_D A ((W_X4 cI x0 g0 g1 g2 g3 g4 l0 l1 l2 l3 l4 l5 t0 t1 t2 xr xt gn gu gb ga lc lk ln lt ll lr tw tn tt) ++ (W_A cI q2 r1_c_q2_15)) → va_S A s.heap H locs → ∀ ls : Array Slot, lv_has ls 16 [(5, .int v107_5), (3, .int r1_v15_3), (2, .int v107_2), (1, .ref q2), (0, .ref x0)] → W p l e (headSpec wsL_causes rm_L_causes).room s m ([.ref x0] : List Value).toArray below meth c H locs (kc107 + 30) (ks107 + 180) (MQ below (Q_L_causes D cI x0 g0 g1 g2 g3 g4 l0 l1 l2 l3 l4 l5 t0 t1 t2 xr xt gn gu gb ga lc lk ln lt ll lr tw tn tt A) ([.ref x0] : List Value).toArray s 1095 6281 A) (F0 m 192 ls [.int j23]) := by
                intro hb23 H locs hP hD hS ls hl
                refine lv_istore (lv' := [(7, .int j23), (5, .int v107_5), (3, .int r1_v15_3), (2, .int v107_2), (1, .ref q2), (0, .ref x0)]) hx hb dL_causes_192 hl (by decide) rfl (fun ls hl => ?_)
                refine lv_iload_n hx hb dL_causes_194 rfl (lv_at hl 3 rfl) ?_
                refine lv_iload hx hb dL_causes_195 (lv_at hl 0 rfl) ?_
                obtain ⟨j27, hJ27⟩ : ∃ z : Int32, z = (if j23 = 0 then (0 : Int32) else (1 <<< (v107_5 &&& 31))) := ⟨_, rfl⟩
                rw [← hJ27] at he
                try dsimp only at he
                have hpJ27 := hp.1
                replace hp := hp.2 _  hJ27.symm
                have kont27 : ∀ (H : Heap) (locs : List Loc), va_P D vwCl ((W_X4 cI x0 g0 g1 g2 g3 g4 l0 l1 l2 l3 l4 l5 t0 t1 t2 xr xt gn gu gb ga lc lk ln lt ll lr tw tn tt) ++ (W_A cI q2 r1_c_q2_15)) H → va_D A ((W_X4 cI x0 g0 g1 g2 g3 g4 l0 l1 l2 l3 l4 l5 t0 t1 t2 xr xt gn gu gb ga lc lk ln lt ll lr tw tn tt) ++ (W_A cI q2 r1_c_q2_15)) → va_S A s.heap H locs → ∀ ls : Array Slot, lv_has ls 16 [(7, .int j23), (5, .int v107_5), (3, .int r1_v15_3), (1, .ref q2), (0, .ref x0)] → W p l e (headSpec wsL_causes rm_L_causes).room s m ([.ref x0] : List Value).toArray below meth c H locs (kc107 + 30) (ks107 + 180) (MQ below (Q_L_causes D cI x0 g0 g1 g2 g3 g4 l0 l1 l2 l3 l4 l5 t0 t1 t2 xr xt gn gu gb ga lc lk ln lt ll lr tw tn tt A) ([.ref x0] : List Value).toArray s 1095 6281 A) (F0 m 208 ls [.int j27, .int v107_2]) := by
                  intro H locs hP hD hS ls hl
                  refine lv_ior hx hb dL_causes_208 ?_
                  refine lv_istore_n (lv' := [(2, .int (v107_2 ||| j27)), (7, .int j23), (5, .int v107_5), (3, .int r1_v15_3), (1, .ref q2), (0, .ref x0)]) hx hb dL_causes_209 rfl hl (by decide) rfl (fun ls hl => ?_)
                  refine lv_aload_n hx hb dL_causes_210 rfl (lv_at hl 5 rfl) ?_
                  refine lv_iload hx hb dL_causes_211 (lv_at hl 2 rfl) ?_
                  have hq29 := hp.1
                  replace hp := hp.2
                  refine k_ycalli (S := Unit) (wc := (W_X4 cI x0 g0 g1 g2 g3 g4 l0 l1 l2 l3 l4 l5 t0 t1 t2 xr xt gn gu gb ga lc lk ln lt ll lr tw tn tt)) (wr := (W_A cI q2 r1_c_q2_15)) (w1 := fun u => (W_X4 cI x0 g0 g1 g2 g3 g4 l0 l1 l2 l3 l4 l5 t0 t1 t2 xr xt gn gu gb ga lc lk ln lt ll lr tw tn tt)) (fun u => ((W_X4 cI x0 g0 g1 g2 g3 g4 l0 l1 l2 l3 l4 l5 t0 t1 t2 xr xt gn gu gb ga lc lk ln lt ll lr tw tn tt) ++ (W_A cI q2 r1_c_q2_15))) hP hK hD hN hXB hS hA [0, 1, 2, 3, 4, 5, 6, 7, 8, 9, 10, 11, 12, 13, 14] [15] rfl rfl (by decide) (by decide) (by decide) [1, 2, 3, 4, 5, 6, 7, 8, 9, 10, 11, 12, 13, 14, 15, 0] (by decide) (fun _ => rfl) (fun hg => vx_runSW (As := [.ref x0, .int v107_5]) (rest := []) ⟨hx, hb, hml, hown, hts⟩ (c_L_plausible l D cI x0 g0 g1 g2 g3 g4 l0 l1 l2 l3 l4 l5 t0 t1 t2 xr xt gn gu gb ga lc lk ln lt ll lr tw tn tt _ v107_5 hq29 hst) (vx_cwSW 2 hts gL_causes_L_plausible rfl rfl rfl (by decide +kernel) ⟨Nat.le_of_ble_eq_true rfl, Nat.le_of_ble_eq_true rfl⟩) ⟨PX.blind, fun U hU hW => ⟨rfl, hg U hU hW⟩⟩ rfl rfl hl.1 rfl (lv_room (Nat.le_of_ble_eq_true rfl)) dL_causes_213 ⟨(by show (kc107 + 30) + 2 ≤ 1095; omega), (by show (ks107 + 180) + 9 ≤ 6281; omega)⟩) (fun r29 u H locs hw hP hD hS => ?_)
                  subst hw
                  refine lv_iconst (v := 1) hx hb dL_causes_216 (by decide) ?_
                  obtain ⟨j30, hJ30⟩ : ∃ z : Int32, z = (if (f_L_plausible xr gu v107_5) = 1 then (1 : Int32) else (0 : Int32)) := ⟨_, rfl⟩
                  rw [← hJ30] at he
                  try dsimp only at he
                  have hpJ30 := hp.1
                  replace hp := hp.2 _  hJ30.symm
                  have kont30 : (j30 = 0 ∨ j30 = 1) → ∀ (H : Heap) (locs : List Loc), va_P D vwCl ((W_X4 cI x0 g0 g1 g2 g3 g4 l0 l1 l2 l3 l4 l5 t0 t1 t2 xr xt gn gu gb ga lc lk ln lt ll lr tw tn tt) ++ (W_A cI q2 r1_c_q2_15)) H → va_D A ((W_X4 cI x0 g0 g1 g2 g3 g4 l0 l1 l2 l3 l4 l5 t0 t1 t2 xr xt gn gu gb ga lc lk ln lt ll lr tw tn tt) ++ (W_A cI q2 r1_c_q2_15)) → va_S A s.heap H locs → ∀ ls : Array Slot, lv_has ls 16 [(2, .int (v107_2 ||| j27)), (7, .int j23), (5, .int v107_5), (3, .int r1_v15_3), (1, .ref q2), (0, .ref x0)] → W p l e (headSpec wsL_causes rm_L_causes).room s m ([.ref x0] : List Value).toArray below meth c H locs (kc107 + 32) (ks107 + 189) (MQ below (Q_L_causes D cI x0 g0 g1 g2 g3 g4 l0 l1 l2 l3 l4 l5 t0 t1 t2 xr xt gn gu gb ga lc lk ln lt ll lr tw tn tt A) ([.ref x0] : List Value).toArray s 1095 6281 A) (F0 m 225 ls [.int j30]) := by
                    intro hb30 H locs hP hD hS ls hl
                    refine lv_iload hx hb dL_causes_225 (lv_at hl 1 rfl) ?_
                    obtain ⟨j32, hJ32⟩ : ∃ z : Int32, z = (if j30 = j23 then (1 : Int32) else (0 : Int32)) := ⟨_, rfl⟩
                    rw [← hJ32] at he
                    try dsimp only at he
                    have hpJ32 := hp.1
                    replace hp := hp.2 _  hJ32.symm
                    have kont32 : (j32 = 0 ∨ j32 = 1) → ∀ (H : Heap) (locs : List Loc), va_P D vwCl ((W_X4 cI x0 g0 g1 g2 g3 g4 l0 l1 l2 l3 l4 l5 t0 t1 t2 xr xt gn gu gb ga lc lk ln lt ll lr tw tn tt) ++ (W_A cI q2 r1_c_q2_15)) H → va_D A ((W_X4 cI x0 g0 g1 g2 g3 g4 l0 l1 l2 l3 l4 l5 t0 t1 t2 xr xt gn gu gb ga lc lk ln lt ll lr tw tn tt) ++ (W_A cI q2 r1_c_q2_15)) → va_S A s.heap H locs → ∀ ls : Array Slot, lv_has ls 16 [(2, .int (v107_2 ||| j27)), (5, .int v107_5), (3, .int r1_v15_3), (1, .ref q2), (0, .ref x0)] → W p l e (headSpec wsL_causes rm_L_causes).room s m ([.ref x0] : List Value).toArray below meth c H locs (kc107 + 32) (ks107 + 189) (MQ below (Q_L_causes D cI x0 g0 g1 g2 g3 g4 l0 l1 l2 l3 l4 l5 t0 t1 t2 xr xt gn gu gb ga lc lk ln lt ll lr tw tn tt A) ([.ref x0] : List Value).toArray s 1095 6281 A) (F0 m 235 ls [.int j32]) := by
                      intro hb32 H locs hP hD hS ls hl
                      refine lv_istore (lv' := [(4, .int j32), (2, .int (v107_2 ||| j27)), (5, .int v107_5), (3, .int r1_v15_3), (1, .ref q2), (0, .ref x0)]) hx hb dL_causes_235 hl (by decide) rfl (fun ls hl => ?_)
                      refine lv_iinc (v := (v107_5 + 1)) (lv' := [(5, .int (v107_5 + 1)), (4, .int j32), (2, .int (v107_2 ||| j27)), (3, .int r1_v15_3), (1, .ref q2), (0, .ref x0)]) hx hb dL_causes_237 hl (k := 2) rfl rfl (by decide) rfl (fun ls hl => ?_)
                      refine lv_goto (tgt := 107) hx hb dL_causes_240 (by decide) ?_
                      refine W.widen (k := kc107 + 32) (n := ks107 + 189) (by omega) (by omega) ?_
                      exact ih _ _ _ (kc107 + 32) (ks107 + 189) (by omega) (by omega) hp he _ _ hP hD hS _ (lv_sub hl [0, 1, 3, 2, 4, 5] rfl)
                    replace he := hJ32
                    replace hp := hpJ32
                    refine lv_icmp_ne (tgt := 234) hx hb dL_causes_227 (by decide) (fun c33 => ?_) (fun c33 => ?_)
                    · replace hp := hp.2 c33
                      replace he := he.trans (if_neg c33)
                      refine lv_iconst (v := 0) hx hb dL_causes_234 (by decide) ?_
                      subst he
                      exact kont32 (Or.inl rfl) _ _ hP hD hS _ (lv_sub hl [0, 2, 3, 4, 5] rfl)
                    · replace hp := hp.1 c33
                      replace he := he.trans (if_pos c33)
                      refine lv_iconst (v := 1) hx hb dL_causes_230 (by decide) ?_
                      refine lv_goto (tgt := 235) hx hb dL_causes_231 (by decide) ?_
                      subst he
                      exact kont32 (Or.inr rfl) _ _ hP hD hS _ (lv_sub hl [0, 2, 3, 4, 5] rfl)
                  replace he := hJ30
                  replace hp := hpJ30
                  refine lv_icmp_ne (tgt := 224) hx hb dL_causes_217 (by decide) (fun c31 => ?_) (fun c31 => ?_)
                  · replace hp := hp.2 c31
                    replace he := he.trans (if_neg c31)
                    refine lv_iconst (v := 0) hx hb dL_causes_224 (by decide) ?_
                    subst he
                    exact kont30 (Or.inl rfl) _ _ hP hD hS _ (lv_sub hl [0, 1, 2, 3, 4, 5] rfl)
                  · replace hp := hp.1 c31
                    replace he := he.trans (if_pos c31)
                    refine lv_iconst (v := 1) hx hb dL_causes_220 (by decide) ?_
                    refine lv_goto (tgt := 225) hx hb dL_causes_221 (by decide) ?_
                    subst he
                    exact kont30 (Or.inr rfl) _ _ hP hD hS _ (lv_sub hl [0, 1, 2, 3, 4, 5] rfl)
                replace he := hJ27
                replace hp := hpJ27
                refine lv_if_eq (tgt := 207) hx hb dL_causes_197 (by decide) (fun c28 => ?_) (fun c28 => ?_)
                · replace hp := hp.1 c28
                  replace he := he.trans (if_pos c28)
                  refine lv_iconst (v := 0) hx hb dL_causes_207 (by decide) ?_
                  subst he
                  exact kont27 _ _ hP hD hS _ (lv_sub hl [0, 1, 2, 4, 5] rfl)
                · replace hp := hp.2 c28
                  replace he := he.trans (if_neg c28)
                  refine lv_iconst (v := 1) hx hb dL_causes_200 (by decide) ?_
                  refine lv_iload hx hb dL_causes_201 (lv_at hl 1 rfl) ?_
                  refine lv_ishl hx hb dL_causes_203 ?_
                  refine lv_goto (tgt := 208) hx hb dL_causes_204 (by decide) ?_
                  subst he
                  exact kont27 _ _ hP hD hS _ (lv_sub hl [0, 1, 2, 4, 5] rfl)
              replace he := hJ23
              replace hp := hpJ23
              refine lv_icmp_eq (tgt := 187) hx hb dL_causes_170 (by decide) (fun c24 => ?_) (fun c24 => ?_)
              · replace hp := hp.1 c24
                replace he := he.trans (if_pos c24)
                refine lv_iconst (v := 1) hx hb dL_causes_187 (by decide) ?_
                refine lv_goto (tgt := 192) hx hb dL_causes_188 (by decide) ?_
                subst he
                exact kont23 (Or.inr rfl) _ _ hP hD hS _ (lv_sub hl [1, 2, 3, 4, 5] rfl)
              · replace hp := hp.2 c24
                replace he := he.trans (if_neg c24)
                refine lv_iload hx hb dL_causes_173 (lv_at hl 0 rfl) ?_
                refine lv_if_le (tgt := 191) hx hb dL_causes_175 (by decide) (fun c25 => ?_) (fun c25 => ?_)
                · replace hp := hp.1 c25
                  replace he := he.trans (if_pos c25)
                  refine lv_iconst (v := 0) hx hb dL_causes_191 (by decide) ?_
                  subst he
                  exact kont23 (Or.inl rfl) _ _ hP hD hS _ (lv_sub hl [1, 2, 3, 4, 5] rfl)
                · replace hp := hp.2 c25
                  replace he := he.trans (if_neg c25)
                  refine lv_iload hx hb dL_causes_178 (lv_at hl 0 rfl) ?_
                  refine lv_iload_n hx hb dL_causes_180 rfl (lv_at hl 2 rfl) ?_
                  refine lv_iconst (v := (-1)) hx hb dL_causes_181 (by decide) ?_
                  refine lv_ixor hx hb dL_causes_182 ?_
                  refine lv_iand hx hb dL_causes_183 ?_
                  refine lv_if_ne (tgt := 191) hx hb dL_causes_184 (by decide) (fun c26 => ?_) (fun c26 => ?_)
                  · replace hp := hp.2 c26
                    replace he := he.trans (if_neg c26)
                    refine lv_iconst (v := 0) hx hb dL_causes_191 (by decide) ?_
                    subst he
                    exact kont23 (Or.inl rfl) _ _ hP hD hS _ (lv_sub hl [1, 2, 3, 4, 5] rfl)
                  · replace hp := hp.1 c26
                    replace he := he.trans (if_pos c26)
                    refine lv_iconst (v := 1) hx hb dL_causes_187 (by decide) ?_
                    refine lv_goto (tgt := 192) hx hb dL_causes_188 (by decide) ?_
                    subst he
                    exact kont23 (Or.inr rfl) _ _ hP hD hS _ (lv_sub hl [1, 2, 3, 4, 5] rfl)
            have loop18 : ∀ (n : Nat) (v125_6 : Int32) (v125_7 : Int32), ∀ (kc125 ks125 : Nat), kc125 + n * 2 ≤ (kc107 + 30) → ks125 + n * 12 ≤ (ks107 + 180) → p_L_causes_L125 gn v107_5 n v125_6 v125_7 → (r18_v125_6, r18_v125_7) = f_L_causes_L125 gn v107_5 n v125_6 v125_7 → ∀ (H : Heap) (locs : List Loc), va_P D vwCl ((W_X4 cI x0 g0 g1 g2 g3 g4 l0 l1 l2 l3 l4 l5 t0 t1 t2 xr xt gn gu gb ga lc lk ln lt ll lr tw tn tt) ++ (W_A cI q2 r1_c_q2_15)) H → va_D A ((W_X4 cI x0 g0 g1 g2 g3 g4 l0 l1 l2 l3 l4 l5 t0 t1 t2 xr xt gn gu gb ga lc lk ln lt ll lr tw tn tt) ++ (W_A cI q2 r1_c_q2_15)) → va_S A s.heap H locs → ∀ ls : Array Slot, lv_has ls 16 [(7, .int v125_7), (6, .int v125_6), (5, .int v107_5), (3, .int r1_v15_3), (2, .int v107_2), (1, .ref q2), (0, .ref x0)] → W p l e (headSpec wsL_causes rm_L_causes).room s m ([.ref x0] : List Value).toArray below meth c H locs kc125 ks125 (MQ below (Q_L_causes D cI x0 g0 g1 g2 g3 g4 l0 l1 l2 l3 l4 l5 t0 t1 t2 xr xt gn gu gb ga lc lk ln lt ll lr tw tn tt A) ([.ref x0] : List Value).toArray s 1095 6281 A) (F0 m 125 ls []) := by
              intro n
              induction n with
              | zero => exact fun _ _ _ _ _ _ hp => hp.elim
              | succ n ih =>
                intro v125_6 v125_7 kc125 ks125 hkc125 hks125 hp he H locs hP hD hS ls hl
                replace hp := Eq.mp (p_L_causes_L125.eq_2 ..) hp
                replace he := he.trans (f_L_causes_L125.eq_2 ..)
                refine lv_iload hx hb dL_causes_125 (lv_at hl 0 rfl) ?_
                refine lv_bipush (v := 14) hx hb dL_causes_127 (by decide) ?_
                refine lv_icmp_ge (tgt := 163) hx hb dL_causes_129 (by decide) (fun c19 => ?_) (fun c19 => ?_)
                · replace hp := hp.1 c19
                  replace he := he.trans (if_pos c19)
                  refine W.widen (k := (kc107 + 30)) (n := (ks107 + 180)) (by omega) (by omega) ?_
                  exact kont18 _ _ he _ _ hP hD hS _ (lv_sub hl [1, 2, 3, 4, 5, 6] rfl)
                · replace hp := hp.2 c19
                  replace he := he.trans (if_neg c19)
                  refine lv_iload hx hb dL_causes_132 (lv_at hl 1 rfl) ?_
                  refine lv_aload_n hx hb dL_causes_134 rfl (lv_at hl 6 rfl) ?_
                  refine lv_iload hx hb dL_causes_135 (lv_at hl 0 rfl) ?_
                  refine lv_iload hx hb dL_causes_137 (lv_at hl 2 rfl) ?_
                  have hq20 := hp.1
                  replace hp := hp.2
                  refine k_ycalli (S := Unit) (wc := (W_X4 cI x0 g0 g1 g2 g3 g4 l0 l1 l2 l3 l4 l5 t0 t1 t2 xr xt gn gu gb ga lc lk ln lt ll lr tw tn tt)) (wr := (W_A cI q2 r1_c_q2_15)) (w1 := fun u => (W_X4 cI x0 g0 g1 g2 g3 g4 l0 l1 l2 l3 l4 l5 t0 t1 t2 xr xt gn gu gb ga lc lk ln lt ll lr tw tn tt)) (fun u => ((W_X4 cI x0 g0 g1 g2 g3 g4 l0 l1 l2 l3 l4 l5 t0 t1 t2 xr xt gn gu gb ga lc lk ln lt ll lr tw tn tt) ++ (W_A cI q2 r1_c_q2_15))) hP hK hD hN hXB hS hA [0, 1, 2, 3, 4, 5, 6, 7, 8, 9, 10, 11, 12, 13, 14] [15] rfl rfl (by decide) (by decide) (by decide) [1, 2, 3, 4, 5, 6, 7, 8, 9, 10, 11, 12, 13, 14, 15, 0] (by decide) (fun _ => rfl) (fun hg => vx_runSW (As := [.ref x0, .int v125_7, .int v107_5]) (rest := [.int v125_6]) ⟨hx, hb, hml, hown, hts⟩ (c_L_needs l D cI x0 g0 g1 g2 g3 g4 l0 l1 l2 l3 l4 l5 t0 t1 t2 xr xt gn gu gb ga lc lk ln lt ll lr tw tn tt _ v125_7 v107_5 hq20 hst) (vx_cwSW 3 hts gL_causes_L_needs rfl rfl rfl (by decide +kernel) ⟨Nat.le_of_ble_eq_true rfl, Nat.le_of_ble_eq_true rfl⟩) ⟨PX.blind, fun U hU hW => ⟨rfl, hg U hU hW⟩⟩ rfl rfl hl.1 rfl (lv_room (Nat.le_of_ble_eq_true rfl)) dL_causes_139 ⟨(by show kc125 + 2 ≤ 1095; omega), (by show ks125 + 12 ≤ 6281; omega)⟩) (fun r20 u H locs hw hP hD hS => ?_)
                  subst hw
                  refine lv_iconst (v := 1) hx hb dL_causes_142 (by decide) ?_
                  obtain ⟨j21, hJ21⟩ : ∃ z : Int32, z = (if (f_L_needs gn v125_7 v107_5) = 1 then (1 <<< (v125_7 &&& 31)) else (0 : Int32)) := ⟨_, rfl⟩
                  rw [← hJ21] at he
                  try dsimp only at he
                  have hpJ21 := hp.1
                  replace hp := hp.2 _  hJ21.symm
                  have kont21 : ∀ (H : Heap) (locs : List Loc), va_P D vwCl ((W_X4 cI x0 g0 g1 g2 g3 g4 l0 l1 l2 l3 l4 l5 t0 t1 t2 xr xt gn gu gb ga lc lk ln lt ll lr tw tn tt) ++ (W_A cI q2 r1_c_q2_15)) H → va_D A ((W_X4 cI x0 g0 g1 g2 g3 g4 l0 l1 l2 l3 l4 l5 t0 t1 t2 xr xt gn gu gb ga lc lk ln lt ll lr tw tn tt) ++ (W_A cI q2 r1_c_q2_15)) → va_S A s.heap H locs → ∀ ls : Array Slot, lv_has ls 16 [(7, .int v125_7), (5, .int v107_5), (3, .int r1_v15_3), (2, .int v107_2), (1, .ref q2), (0, .ref x0)] → W p l e (headSpec wsL_causes rm_L_causes).room s m ([.ref x0] : List Value).toArray below meth c H locs (kc125 + 2) (ks125 + 12) (MQ below (Q_L_causes D cI x0 g0 g1 g2 g3 g4 l0 l1 l2 l3 l4 l5 t0 t1 t2 xr xt gn gu gb ga lc lk ln lt ll lr tw tn tt A) ([.ref x0] : List Value).toArray s 1095 6281 A) (F0 m 154 ls [.int j21, .int v125_6]) := by
                    intro H locs hP hD hS ls hl
                    refine lv_ior hx hb dL_causes_154 ?_
                    refine lv_istore (lv' := [(6, .int (v125_6 ||| j21)), (7, .int v125_7), (5, .int v107_5), (3, .int r1_v15_3), (2, .int v107_2), (1, .ref q2), (0, .ref x0)]) hx hb dL_causes_155 hl (by decide) rfl (fun ls hl => ?_)
                    refine lv_iinc (v := (v125_7 + 1)) (lv' := [(7, .int (v125_7 + 1)), (6, .int (v125_6 ||| j21)), (5, .int v107_5), (3, .int r1_v15_3), (2, .int v107_2), (1, .ref q2), (0, .ref x0)]) hx hb dL_causes_157 hl (k := 1) rfl rfl (by decide) rfl (fun ls hl => ?_)
                    refine lv_goto (tgt := 125) hx hb dL_causes_160 (by decide) ?_
                    refine W.widen (k := kc125 + 2) (n := ks125 + 12) (by omega) (by omega) ?_
                    exact ih _ _ (kc125 + 2) (ks125 + 12) (by omega) (by omega) hp he _ _ hP hD hS _ (lv_sub hl [0, 1, 2, 3, 4, 5, 6] rfl)
                  replace he := hJ21
                  replace hp := hpJ21
                  refine lv_icmp_ne (tgt := 153) hx hb dL_causes_143 (by decide) (fun c22 => ?_) (fun c22 => ?_)
                  · replace hp := hp.2 c22
                    replace he := he.trans (if_neg c22)
                    refine lv_iconst (v := 0) hx hb dL_causes_153 (by decide) ?_
                    subst he
                    exact kont21 _ _ hP hD hS _ (lv_sub hl [0, 2, 3, 4, 5, 6] rfl)
                  · replace hp := hp.1 c22
                    replace he := he.trans (if_pos c22)
                    refine lv_iconst (v := 1) hx hb dL_causes_146 (by decide) ?_
                    refine lv_iload hx hb dL_causes_147 (lv_at hl 0 rfl) ?_
                    refine lv_ishl hx hb dL_causes_149 ?_
                    refine lv_goto (tgt := 154) hx hb dL_causes_150 (by decide) ?_
                    subst he
                    exact kont21 _ _ hP hD hS _ (lv_sub hl [0, 2, 3, 4, 5, 6] rfl)
            exact loop18 15 (0 : Int32) (0 : Int32) kc107 ks107 (Nat.le_refl _) (Nat.le_refl _) hpL18 hL18 _ _ hP hD hS _ (lv_sub hl [0, 1, 2, 4, 5, 6, 7] rfl)
    exact loop15 15 (0 : Int32) (1 : Int32) (0 : Int32) 466 2804 (Nat.le_refl _) (Nat.le_refl _) hpL15 hL15 _ _ hP hD hS _ (lv_sub hl [0, 1, 2, 3, 4, 5] rfl)
  have loop1 : ∀ (n : Nat) (v15_3 : Int32) (v15_5 : Int32) (c_q2_15 : AA), ∀ (kc15 ks15 : Nat), kc15 + n * 31 ≤ 466 → ks15 + n * 186 ≤ 2804 → p_L_causes_L15 gb tn n v15_3 v15_5 c_q2_15 → (r1_v15_3, r1_v15_5, r1_c_q2_15) = f_L_causes_L15 gb tn n v15_3 v15_5 c_q2_15 → ∀ (H : Heap) (locs : List Loc), va_P D vwCl ((W_X4 cI x0 g0 g1 g2 g3 g4 l0 l1 l2 l3 l4 l5 t0 t1 t2 xr xt gn gu gb ga lc lk ln lt ll lr tw tn tt) ++ (W_A cI q2 c_q2_15)) H → va_D A ((W_X4 cI x0 g0 g1 g2 g3 g4 l0 l1 l2 l3 l4 l5 t0 t1 t2 xr xt gn gu gb ga lc lk ln lt ll lr tw tn tt) ++ (W_A cI q2 c_q2_15)) → va_S A s.heap H locs → ∀ ls : Array Slot, lv_has ls 16 [(5, .int v15_5), (4, .int 1), (3, .int v15_3), (2, .int 0), (1, .ref q2), (0, .ref x0)] → W p l e (headSpec wsL_causes rm_L_causes).room s m ([.ref x0] : List Value).toArray below meth c H locs kc15 ks15 (MQ below (Q_L_causes D cI x0 g0 g1 g2 g3 g4 l0 l1 l2 l3 l4 l5 t0 t1 t2 xr xt gn gu gb ga lc lk ln lt ll lr tw tn tt A) ([.ref x0] : List Value).toArray s 1095 6281 A) (F0 m 15 ls []) := by
    intro n
    induction n with
    | zero => exact fun _ _ _ _ _ _ _ hp => hp.elim
    | succ n ih =>
      intro v15_3 v15_5 c_q2_15 kc15 ks15 hkc15 hks15 hp he H locs hP hD hS ls hl
      replace hp := Eq.mp (p_L_causes_L15.eq_2 ..) hp
      replace he := he.trans (f_L_causes_L15.eq_2 ..)
      refine lv_iload hx hb dL_causes_15 (lv_at hl 0 rfl) ?_
      refine lv_bipush (v := 14) hx hb dL_causes_17 (by decide) ?_
      refine lv_icmp_ge (tgt := 104) hx hb dL_causes_19 (by decide) (fun c2 => ?_) (fun c2 => ?_)
      · replace hp := hp.1 c2
        replace he := he.trans (if_pos c2)
        refine W.widen (k := 466) (n := 2804) (by omega) (by omega) ?_
        exact kont1 _ _ _ he _ _ hP hD hS _ (lv_sub hl [1, 2, 3, 4, 5] rfl)
      · replace hp := hp.2 c2
        replace he := he.trans (if_neg c2)
        refine lv_iload hx hb dL_causes_22 (lv_at hl 1 rfl) ?_
        refine lv_if_eq (tgt := 104) hx hb dL_causes_24 (by decide) (fun c14 => absurd c14 (by decide)) (fun _ => ?_)
        refine lv_iload_n hx hb dL_causes_27 rfl (lv_at hl 2 rfl) ?_
        refine lv_aload_n hx hb dL_causes_28 rfl (lv_at hl 5 rfl) ?_
        refine lv_iload hx hb dL_causes_29 (lv_at hl 0 rfl) ?_
        have hq3 := hp.1
        replace hp := hp.2
        refine k_ycalli (S := Unit) (wc := (W_X4 cI x0 g0 g1 g2 g3 g4 l0 l1 l2 l3 l4 l5 t0 t1 t2 xr xt gn gu gb ga lc lk ln lt ll lr tw tn tt)) (wr := (W_A cI q2 c_q2_15)) (w1 := fun u => (W_X4 cI x0 g0 g1 g2 g3 g4 l0 l1 l2 l3 l4 l5 t0 t1 t2 xr xt gn gu gb ga lc lk ln lt ll lr tw tn tt)) (fun u => ((W_X4 cI x0 g0 g1 g2 g3 g4 l0 l1 l2 l3 l4 l5 t0 t1 t2 xr xt gn gu gb ga lc lk ln lt ll lr tw tn tt) ++ (W_A cI q2 c_q2_15))) hP hK hD hN hXB hS hA [0, 1, 2, 3, 4, 5, 6, 7, 8, 9, 10, 11, 12, 13, 14] [15] rfl rfl (by decide) (by decide) (by decide) [1, 2, 3, 4, 5, 6, 7, 8, 9, 10, 11, 12, 13, 14, 15, 0] (by decide) (fun _ => rfl) (fun hg => vx_runSW (As := [.ref x0, .int v15_5]) (rest := [.int v15_3]) ⟨hx, hb, hml, hown, hts⟩ (c_L_ticket l D cI x0 g0 g1 g2 g3 g4 l0 l1 l2 l3 l4 l5 t0 t1 t2 xr xt gn gu gb ga lc lk ln lt ll lr tw tn tt _ v15_5 hq3 hst) (vx_cwSW 2 hts gL_causes_L_ticket rfl rfl rfl (by decide +kernel) ⟨Nat.le_of_ble_eq_true rfl, Nat.le_of_ble_eq_true rfl⟩) ⟨PX.blind, fun U hU hW => ⟨rfl, hg U hU hW⟩⟩ rfl rfl hl.1 rfl (lv_room (Nat.le_of_ble_eq_true rfl)) dL_causes_31 ⟨(by show kc15 + 1 ≤ 1095; omega), (by show ks15 + 6 ≤ 6281; omega)⟩) (fun r3 u H locs hw hP hD hS => ?_)
        subst hw
        obtain ⟨j4, hJ4⟩ : ∃ z : Int32, z = (if (f_L_ticket tn v15_5) ≤ 0 then (0 : Int32) else (1 <<< (v15_5 &&& 31))) := ⟨_, rfl⟩
        rw [← hJ4] at he
        try dsimp only at he
        have hpJ4 := hp.1
        replace hp := hp.2 _  hJ4.symm
        have kont4 : ∀ (H : Heap) (locs : List Loc), va_P D vwCl ((W_X4 cI x0 g0 g1 g2 g3 g4 l0 l1 l2 l3 l4 l5 t0 t1 t2 xr xt gn gu gb ga lc lk ln lt ll lr tw tn tt) ++ (W_A cI q2 c_q2_15)) H → va_D A ((W_X4 cI x0 g0 g1 g2 g3 g4 l0 l1 l2 l3 l4 l5 t0 t1 t2 xr xt gn gu gb ga lc lk ln lt ll lr tw tn tt) ++ (W_A cI q2 c_q2_15)) → va_S A s.heap H locs → ∀ ls : Array Slot, lv_has ls 16 [(5, .int v15_5), (4, .int 1), (2, .int 0), (1, .ref q2), (0, .ref x0)] → W p l e (headSpec wsL_causes rm_L_causes).room s m ([.ref x0] : List Value).toArray below meth c H locs (kc15 + 1) (ks15 + 6) (MQ below (Q_L_causes D cI x0 g0 g1 g2 g3 g4 l0 l1 l2 l3 l4 l5 t0 t1 t2 xr xt gn gu gb ga lc lk ln lt ll lr tw tn tt A) ([.ref x0] : List Value).toArray s 1095 6281 A) (F0 m 45 ls [.int j4, .int v15_3]) := by
          intro H locs hP hD hS ls hl
          refine lv_ior hx hb dL_causes_45 ?_
          refine lv_istore_n (lv' := [(3, .int (v15_3 ||| j4)), (5, .int v15_5), (4, .int 1), (2, .int 0), (1, .ref q2), (0, .ref x0)]) hx hb dL_causes_46 rfl hl (by decide) rfl (fun ls hl => ?_)
          refine lv_aload_n hx hb dL_causes_47 rfl (lv_at hl 4 rfl) ?_
          refine lv_iload hx hb dL_causes_48 (lv_at hl 1 rfl) ?_
          refine lv_iconst (v := 1) hx hb dL_causes_50 (by decide) ?_
          refine lv_iload hx hb dL_causes_51 (lv_at hl 1 rfl) ?_
          refine lv_ishl hx hb dL_causes_53 ?_
          have h6 := hp.1
          replace hp := hp.2
          refine va_iast hx hb hK hP hD hS 15 0 rfl rfl h6 dL_causes_54 (fun H locs hP hD hS => ?_)
          have hP : va_P D vwCl ((W_X4 cI x0 g0 g1 g2 g3 g4 l0 l1 l2 l3 l4 l5 t0 t1 t2 xr xt gn gu gb ga lc lk ln lt ll lr tw tn tt) ++ (W_A cI q2 (upd c_q2_15 (v15_5).toNatClampNeg (1 <<< (v15_5 &&& 31))))) H := hP
          have hD : va_D A ((W_X4 cI x0 g0 g1 g2 g3 g4 l0 l1 l2 l3 l4 l5 t0 t1 t2 xr xt gn gu gb ga lc lk ln lt ll lr tw tn tt) ++ (W_A cI q2 (upd c_q2_15 (v15_5).toNatClampNeg (1 <<< (v15_5 &&& 31))))) := hD
          refine lv_iconst (v := 0) hx hb dL_causes_55 (by decide) ?_
          refine lv_istore (lv' := [(6, .int 0), (3, .int (v15_3 ||| j4)), (5, .int v15_5), (4, .int 1), (2, .int 0), (1, .ref q2), (0, .ref x0)]) hx hb dL_causes_56 hl (by decide) rfl (fun ls hl => ?_)
          obtain ⟨⟨r7_v58_6, r7_c_q2_58⟩, hL7⟩ : ∃ z, z = f_L_causes_L58 gb v15_5 15 (0 : Int32) (upd c_q2_15 (v15_5).toNatClampNeg (1 <<< (v15_5 &&& 31))) := ⟨_, rfl⟩
          rw [← hL7] at he
          try dsimp only at he
          have hpL7 := hp.1
          replace hp := hp.2 _ _ hL7.symm
          have kont7 : ∀ (x7_v58_6 : Int32) (x7_c_q2_58 : AA), (r7_v58_6, r7_c_q2_58) = (x7_v58_6, x7_c_q2_58) → ∀ (H : Heap) (locs : List Loc), va_P D vwCl ((W_X4 cI x0 g0 g1 g2 g3 g4 l0 l1 l2 l3 l4 l5 t0 t1 t2 xr xt gn gu gb ga lc lk ln lt ll lr tw tn tt) ++ (W_A cI q2 x7_c_q2_58)) H → va_D A ((W_X4 cI x0 g0 g1 g2 g3 g4 l0 l1 l2 l3 l4 l5 t0 t1 t2 xr xt gn gu gb ga lc lk ln lt ll lr tw tn tt) ++ (W_A cI q2 x7_c_q2_58)) → va_S A s.heap H locs → ∀ ls : Array Slot, lv_has ls 16 [(3, .int (v15_3 ||| j4)), (5, .int v15_5), (4, .int 1), (2, .int 0), (1, .ref q2), (0, .ref x0)] → W p l e (headSpec wsL_causes rm_L_causes).room s m ([.ref x0] : List Value).toArray below meth c H locs (kc15 + 31) (ks15 + 186) (MQ below (Q_L_causes D cI x0 g0 g1 g2 g3 g4 l0 l1 l2 l3 l4 l5 t0 t1 t2 xr xt gn gu gb ga lc lk ln lt ll lr tw tn tt A) ([.ref x0] : List Value).toArray s 1095 6281 A) (F0 m 98 ls []) := by
            intro x7_v58_6 x7_c_q2_58 hxe H locs hP hD hS ls hl
            simp only [Prod.mk.injEq] at hxe
            obtain ⟨rfl, rfl⟩ := hxe
            refine lv_iinc (v := (v15_5 + 1)) (lv' := [(5, .int (v15_5 + 1)), (3, .int (v15_3 ||| j4)), (4, .int 1), (2, .int 0), (1, .ref q2), (0, .ref x0)]) hx hb dL_causes_98 hl (k := 1) rfl rfl (by decide) rfl (fun ls hl => ?_)
            refine lv_goto (tgt := 15) hx hb dL_causes_101 (by decide) ?_
            refine W.widen (k := kc15 + 31) (n := ks15 + 186) (by omega) (by omega) ?_
            exact ih _ _ _ (kc15 + 31) (ks15 + 186) (by omega) (by omega) hp he _ _ hP hD hS _ (lv_sub hl [0, 2, 1, 3, 4, 5] rfl)
          have loop7 : ∀ (n : Nat) (v58_6 : Int32) (c_q2_58 : AA), ∀ (kc58 ks58 : Nat), kc58 + n * 2 ≤ (kc15 + 31) → ks58 + n * 12 ≤ (ks15 + 186) → p_L_causes_L58 gb v15_5 n v58_6 c_q2_58 → (r7_v58_6, r7_c_q2_58) = f_L_causes_L58 gb v15_5 n v58_6 c_q2_58 → ∀ (H : Heap) (locs : List Loc), va_P D vwCl ((W_X4 cI x0 g0 g1 g2 g3 g4 l0 l1 l2 l3 l4 l5 t0 t1 t2 xr xt gn gu gb ga lc lk ln lt ll lr tw tn tt) ++ (W_A cI q2 c_q2_58)) H → va_D A ((W_X4 cI x0 g0 g1 g2 g3 g4 l0 l1 l2 l3 l4 l5 t0 t1 t2 xr xt gn gu gb ga lc lk ln lt ll lr tw tn tt) ++ (W_A cI q2 c_q2_58)) → va_S A s.heap H locs → ∀ ls : Array Slot, lv_has ls 16 [(6, .int v58_6), (3, .int (v15_3 ||| j4)), (5, .int v15_5), (4, .int 1), (2, .int 0), (1, .ref q2), (0, .ref x0)] → W p l e (headSpec wsL_causes rm_L_causes).room s m ([.ref x0] : List Value).toArray below meth c H locs kc58 ks58 (MQ below (Q_L_causes D cI x0 g0 g1 g2 g3 g4 l0 l1 l2 l3 l4 l5 t0 t1 t2 xr xt gn gu gb ga lc lk ln lt ll lr tw tn tt A) ([.ref x0] : List Value).toArray s 1095 6281 A) (F0 m 58 ls []) := by
            intro n
            induction n with
            | zero => exact fun _ _ _ _ _ _ hp => hp.elim
            | succ n ih =>
              intro v58_6 c_q2_58 kc58 ks58 hkc58 hks58 hp he H locs hP hD hS ls hl
              replace hp := Eq.mp (p_L_causes_L58.eq_2 ..) hp
              replace he := he.trans (f_L_causes_L58.eq_2 ..)
              refine lv_iload hx hb dL_causes_58 (lv_at hl 0 rfl) ?_
              refine lv_bipush (v := 14) hx hb dL_causes_60 (by decide) ?_
              refine lv_icmp_ge (tgt := 98) hx hb dL_causes_62 (by decide) (fun c8 => ?_) (fun c8 => ?_)
              · replace hp := hp.1 c8
                replace he := he.trans (if_pos c8)
                refine W.widen (k := (kc15 + 31)) (n := (ks15 + 186)) (by omega) (by omega) ?_
                exact kont7 _ _ he _ _ hP hD hS _ (lv_sub hl [1, 2, 3, 4, 5, 6] rfl)
              · replace hp := hp.2 c8
                replace he := he.trans (if_neg c8)
                refine lv_aload_n hx hb dL_causes_65 rfl (lv_at hl 5 rfl) ?_
                refine lv_iload hx hb dL_causes_66 (lv_at hl 2 rfl) ?_
                refine lv_dup2_11 hx hb dL_causes_68 rfl rfl ?_
                have h9 := hp.1
                replace hp := hp.2
                refine va_iald hx hb hK hP 15 0 rfl rfl h9 dL_causes_69 ?_
                refine lv_aload_n hx hb dL_causes_70 rfl (lv_at hl 6 rfl) ?_
                refine lv_iload hx hb dL_causes_71 (lv_at hl 0 rfl) ?_
                refine lv_iload hx hb dL_causes_73 (lv_at hl 2 rfl) ?_
                have hq10 := hp.1
                replace hp := hp.2
                refine k_ycalli (S := Unit) (wc := (W_X4 cI x0 g0 g1 g2 g3 g4 l0 l1 l2 l3 l4 l5 t0 t1 t2 xr xt gn gu gb ga lc lk ln lt ll lr tw tn tt)) (wr := (W_A cI q2 c_q2_58)) (w1 := fun u => (W_X4 cI x0 g0 g1 g2 g3 g4 l0 l1 l2 l3 l4 l5 t0 t1 t2 xr xt gn gu gb ga lc lk ln lt ll lr tw tn tt)) (fun u => ((W_X4 cI x0 g0 g1 g2 g3 g4 l0 l1 l2 l3 l4 l5 t0 t1 t2 xr xt gn gu gb ga lc lk ln lt ll lr tw tn tt) ++ (W_A cI q2 c_q2_58))) hP hK hD hN hXB hS hA [0, 1, 2, 3, 4, 5, 6, 7, 8, 9, 10, 11, 12, 13, 14] [15] rfl rfl (by decide) (by decide) (by decide) [1, 2, 3, 4, 5, 6, 7, 8, 9, 10, 11, 12, 13, 14, 15, 0] (by decide) (fun _ => rfl) (fun hg => vx_runSW (As := [.ref x0, .int v58_6, .int v15_5]) (rest := [.int (c_q2_58 (v15_5).toNatClampNeg), .int v15_5, .ref q2]) ⟨hx, hb, hml, hown, hts⟩ (c_L_depends l D cI x0 g0 g1 g2 g3 g4 l0 l1 l2 l3 l4 l5 t0 t1 t2 xr xt gn gu gb ga lc lk ln lt ll lr tw tn tt _ v58_6 v15_5 hq10 hst) (vx_cwSW 3 hts gL_causes_L_depends rfl rfl rfl (by decide +kernel) ⟨Nat.le_of_ble_eq_true rfl, Nat.le_of_ble_eq_true rfl⟩) ⟨PX.blind, fun U hU hW => ⟨rfl, hg U hU hW⟩⟩ rfl rfl hl.1 rfl (lv_room (Nat.le_of_ble_eq_true rfl)) dL_causes_75 ⟨(by show kc58 + 2 ≤ 1095; omega), (by show ks58 + 12 ≤ 6281; omega)⟩) (fun r10 u H locs hw hP hD hS => ?_)
                subst hw
                refine lv_iconst (v := 1) hx hb dL_causes_78 (by decide) ?_
                obtain ⟨j11, hJ11⟩ : ∃ z : Int32, z = (if (f_L_depends gb v58_6 v15_5) = 1 then (1 <<< (v58_6 &&& 31)) else (0 : Int32)) := ⟨_, rfl⟩
                rw [← hJ11] at he
                try dsimp only at he
                have hpJ11 := hp.1
                replace hp := hp.2 _  hJ11.symm
                have kont11 : ∀ (H : Heap) (locs : List Loc), va_P D vwCl ((W_X4 cI x0 g0 g1 g2 g3 g4 l0 l1 l2 l3 l4 l5 t0 t1 t2 xr xt gn gu gb ga lc lk ln lt ll lr tw tn tt) ++ (W_A cI q2 c_q2_58)) H → va_D A ((W_X4 cI x0 g0 g1 g2 g3 g4 l0 l1 l2 l3 l4 l5 t0 t1 t2 xr xt gn gu gb ga lc lk ln lt ll lr tw tn tt) ++ (W_A cI q2 c_q2_58)) → va_S A s.heap H locs → ∀ ls : Array Slot, lv_has ls 16 [(6, .int v58_6), (3, .int (v15_3 ||| j4)), (5, .int v15_5), (4, .int 1), (2, .int 0), (1, .ref q2), (0, .ref x0)] → W p l e (headSpec wsL_causes rm_L_causes).room s m ([.ref x0] : List Value).toArray below meth c H locs (kc58 + 2) (ks58 + 12) (MQ below (Q_L_causes D cI x0 g0 g1 g2 g3 g4 l0 l1 l2 l3 l4 l5 t0 t1 t2 xr xt gn gu gb ga lc lk ln lt ll lr tw tn tt A) ([.ref x0] : List Value).toArray s 1095 6281 A) (F0 m 90 ls [.int j11, .int (c_q2_58 (v15_5).toNatClampNeg), .int v15_5, .ref q2]) := by
                  intro H locs hP hD hS ls hl
                  refine lv_ior hx hb dL_causes_90 ?_
                  have h13 := hp.1
                  replace hp := hp.2
                  refine va_iast hx hb hK hP hD hS 15 0 rfl rfl h13 dL_causes_91 (fun H locs hP hD hS => ?_)
                  have hP : va_P D vwCl ((W_X4 cI x0 g0 g1 g2 g3 g4 l0 l1 l2 l3 l4 l5 t0 t1 t2 xr xt gn gu gb ga lc lk ln lt ll lr tw tn tt) ++ (W_A cI q2 (upd c_q2_58 (v15_5).toNatClampNeg ((c_q2_58 (v15_5).toNatClampNeg) ||| j11)))) H := hP
                  have hD : va_D A ((W_X4 cI x0 g0 g1 g2 g3 g4 l0 l1 l2 l3 l4 l5 t0 t1 t2 xr xt gn gu gb ga lc lk ln lt ll lr tw tn tt) ++ (W_A cI q2 (upd c_q2_58 (v15_5).toNatClampNeg ((c_q2_58 (v15_5).toNatClampNeg) ||| j11)))) := hD
                  refine lv_iinc (v := (v58_6 + 1)) (lv' := [(6, .int (v58_6 + 1)), (3, .int (v15_3 ||| j4)), (5, .int v15_5), (4, .int 1), (2, .int 0), (1, .ref q2), (0, .ref x0)]) hx hb dL_causes_92 hl (k := 0) rfl rfl (by decide) rfl (fun ls hl => ?_)
                  refine lv_goto (tgt := 58) hx hb dL_causes_95 (by decide) ?_
                  refine W.widen (k := kc58 + 2) (n := ks58 + 12) (by omega) (by omega) ?_
                  exact ih _ _ (kc58 + 2) (ks58 + 12) (by omega) (by omega) hp he _ _ hP hD hS _ (lv_sub hl [0, 1, 2, 3, 4, 5, 6] rfl)
                replace he := hJ11
                replace hp := hpJ11
                refine lv_icmp_ne (tgt := 89) hx hb dL_causes_79 (by decide) (fun c12 => ?_) (fun c12 => ?_)
                · replace hp := hp.2 c12
                  replace he := he.trans (if_neg c12)
                  refine lv_iconst (v := 0) hx hb dL_causes_89 (by decide) ?_
                  subst he
                  exact kont11 _ _ hP hD hS _ (lv_sub hl [0, 1, 2, 3, 4, 5, 6] rfl)
                · replace hp := hp.1 c12
                  replace he := he.trans (if_pos c12)
                  refine lv_iconst (v := 1) hx hb dL_causes_82 (by decide) ?_
                  refine lv_iload hx hb dL_causes_83 (lv_at hl 0 rfl) ?_
                  refine lv_ishl hx hb dL_causes_85 ?_
                  refine lv_goto (tgt := 90) hx hb dL_causes_86 (by decide) ?_
                  subst he
                  exact kont11 _ _ hP hD hS _ (lv_sub hl [0, 1, 2, 3, 4, 5, 6] rfl)
          exact loop7 15 (0 : Int32) (upd c_q2_15 (v15_5).toNatClampNeg (1 <<< (v15_5 &&& 31))) (kc15 + 1) (ks15 + 6) (Nat.le_refl _) (Nat.le_refl _) hpL7 hL7 _ _ hP hD hS _ (lv_sub hl [0, 1, 2, 3, 4, 5, 6] rfl)
        replace he := hJ4
        replace hp := hpJ4
        refine lv_if_le (tgt := 44) hx hb dL_causes_34 (by decide) (fun c5 => ?_) (fun c5 => ?_)
        · replace hp := hp.1 c5
          replace he := he.trans (if_pos c5)
          refine lv_iconst (v := 0) hx hb dL_causes_44 (by decide) ?_
          subst he
          exact kont4 _ _ hP hD hS _ (lv_sub hl [0, 1, 3, 4, 5] rfl)
        · replace hp := hp.2 c5
          replace he := he.trans (if_neg c5)
          refine lv_iconst (v := 1) hx hb dL_causes_37 (by decide) ?_
          refine lv_iload hx hb dL_causes_38 (lv_at hl 0 rfl) ?_
          refine lv_ishl hx hb dL_causes_40 ?_
          refine lv_goto (tgt := 45) hx hb dL_causes_41 (by decide) ?_
          subst he
          exact kont4 _ _ hP hD hS _ (lv_sub hl [0, 1, 3, 4, 5] rfl)
  exact loop1 15 (0 : Int32) (0 : Int32) (fun _ => 0) 1 14 (Nat.le_refl _) (Nat.le_refl _) hpL1 hL1 _ _ hP hD hS _ (lv_sub hl [0, 1, 2, 3, 4, 5] rfl)
