abbrev rm_L_cell : Room := { frames := 0, cells := 0, slots := 0, locals := 0 }
abbrev Q_L_cell (D : va_G) (cI : ClassId) (b0 : Nat) (L : Nat) (xs : AA) (a1 : Int32) (A : Nat → Prop) : Array Value → State → Outcome → State → Prop := va_Qi (S := Unit) (fun r u => f_L_cell L xs a1 = r) (fun u t => QW D [(cI, .int)] A ([] : va_W) t) A
set_option maxHeartbeats 4000000 in
set_option maxRecDepth 100000 in
theorem c_L_cell (l : Launch)  (D : va_G) (cI : ClassId) (b0 : Nat) (L : Nat) (xs : AA) (sz : Nat) (a1 : Int32) (hp : p_L_cell L xs a1) : Met l yL_cell wsL_cell rm_L_cell (va_Pc [.ref b0, .int a1] (PS D [(cI, .int)] sz b0 L xs)) (Q_L_cell D cI b0 L xs a1 (va_A ([] : va_W) sz)) 0 0 (va_A ([] : va_W) sz) := by
  refine Met.ofW (cc := cL_cell) (maxL := 2) (ret := (some .int)) (by decide) rfl ?_
  intro p e s m args below meth c s₁ B hml hv
  obtain ⟨rfl, ⟨hsz, hP, hK, hD0, hN⟩, hbl, hX⟩ := hv
  have hx := B.exec
  have hb := B.bytes
  have hr := B.returns
  have hts := atoms_spec (ws := wsL_cell) B.pre
  have hown : s.vm.findClass RL = some m.cls := findClass_of_methodNamed B.named
  have hlocks := B.notSynchronized
  subst hsz
  have hD := hD0.self (sz := s.heap.size)
  generalize hAe : va_A ([] : va_W) s.heap.size = A at hD ⊢
  have hA : ∀ q : Nat, s.heap.size ≤ q → A q := fun q h => by rw [← hAe]; exact Or.inr h
  have hS : va_S A s.heap s.heap [] := va_S.rf
  have hbA : ¬ A b0 := fun h => by rw [← hAe] at h; exact h.elim (fun ⟨k9, e9, h9⟩ => by simp at h9) (fun h9 => Nat.not_le.mpr hbl h9)
  have hl := lv_entry ([.ref b0, .int a1]) (n := 2) (Nat.le_of_ble_eq_true rfl)
  rw [lg_entry_eq]
  generalize (lg_sl ([.ref b0, .int a1]) ++ List.replicate (2 - (lg_sl ([.ref b0, .int a1])).length) Slot.unset).toArray = ls at hl ⊢
  have hl : lv_has ls 2 [(0, .ref b0), (1, .int a1)] := hl
  have he := f_L_cell.eq_1 L xs a1
  replace hp := Eq.mp (p_L_cell.eq_1 ..) hp
  refine lv_iload_n hx hb dL_cell_0 rfl (lv_at hl 1 rfl) ?_
  refine lv_aload_n hx hb dL_cell_1 rfl (lv_at hl 0 rfl) ?_
  refine va_slen hx hb hX hbl hbA hS dL_cell_2 ?_
  obtain ⟨j1, hJ1⟩ : ∃ z : Int32, z = (if (Int32.ofNat L) ≤ a1 then ((47777 * (a1 - a1 / 7001 * 7001)) + 3391) else (xs (a1).toNatClampNeg)) := ⟨_, rfl⟩
  rw [← hJ1] at he
  try dsimp only at he
  have hpJ1 := hp.1
  replace hp := hp.2 _  hJ1.symm
  have kont1 : ∀ (H : Heap) (locs : List Loc), va_P D vwCl ([] : va_W) H → va_D A ([] : va_W) → va_S A s.heap H locs → ∀ ls : Array Slot, lv_has ls 2 [] → W p l e (headSpec wsL_cell rm_L_cell).room s m ([.ref b0, .int a1] : List Value).toArray below meth c H locs 0 0 (MQ below (Q_L_cell D cI b0 L xs a1 A) ([.ref b0, .int a1] : List Value).toArray s 0 0 A) (F0 m 24 ls [.int j1]) := by
    intro H locs hP hD hS ls hl
    refine lv_ldc (v := (2147483647)) hx hb hown (hts (.constant RL 8 (2147483647)) (by decide +kernel)) dL_cell_24 ?_
    refine lv_iand hx hb dL_cell_26 ?_
    exact W.iret (v := (j1 &&& 2147483647)) hx hb hr (fun t ht hW => ⟨⟨(j1 &&& 2147483647), (), rfl, he, by rw [ht]; exact hP, va_K.moved hW.alike hK, hD⟩, hS.F ht⟩) hS.2.2 dL_cell_27
  replace he := hJ1
  replace hp := hpJ1
  refine lv_icmp_ge (tgt := 12) hx hb dL_cell_3 (by decide) (fun c2 => ?_) (fun c2 => ?_)
  · replace hp := hp.1 c2
    replace he := he.trans (if_pos c2)
    refine lv_ldc (v := (47777)) hx hb hown (hts (.constant RL 7 (47777)) (by decide +kernel)) dL_cell_12 ?_
    refine lv_iload_n hx hb dL_cell_14 rfl (lv_at hl 1 rfl) ?_
    refine lv_sipush (v := 7001) hx hb dL_cell_15 (by decide) ?_
    refine lv_irem hx hb dL_cell_18 (by decide) ?_
    refine lv_imul hx hb dL_cell_19 ?_
    refine lv_sipush (v := 3391) hx hb dL_cell_20 (by decide) ?_
    refine lv_iadd hx hb dL_cell_23 ?_
    subst he
    exact kont1 _ _ hP hD hS _ (lv_sub hl [] rfl)
  · replace hp := hp.2 c2
    replace he := he.trans (if_neg c2)
    refine lv_aload_n hx hb dL_cell_6 rfl (lv_at hl 0 rfl) ?_
    refine lv_iload_n hx hb dL_cell_7 rfl (lv_at hl 1 rfl) ?_
    have h3 := hp.1
    replace hp := hp.2
    refine va_sld hx hb hX hbl hbA hS h3 dL_cell_8 ?_
    refine lv_goto (tgt := 24) hx hb dL_cell_9 (by decide) ?_
    subst he
    exact kont1 _ _ hP hD hS _ (lv_sub hl [] rfl)
abbrev rm_L_need : Room := { frames := 8, cells := 3, slots := 18, locals := 153 }
abbrev Q_L_need (D : va_G) (cI : ClassId) (x0 g0 g1 g2 g3 g4 l0 l1 l2 l3 l4 l5 t0 t1 t2 : Nat) (xr : Int32) (xt : Int32) (gn : AA) (gu : AA) (gb : AA) (ga : AA) (lc : Int32) (lk : AA) (ln : AA) (lt : AA) (ll : AA) (lr : AA) (tw : Int32) (tn : AA) (tt : AA) (a1 a2 : Int32) (A : Nat → Prop) : Array Value → State → Outcome → State → Prop := va_Qi (S := AA × AA × AA × AA) (fun r u => f_L_need gn gu gb ga a1 a2 = (r, u)) (fun u t => QW D [(cI, .int)] A (W_X4 cI x0 g0 g1 g2 g3 g4 l0 l1 l2 l3 l4 l5 t0 t1 t2 xr xt u.1 u.2.1 u.2.2.1 u.2.2.2 lc lk ln lt ll lr tw tn tt) t) A
set_option maxHeartbeats 4000000 in
set_option maxRecDepth 100000 in
theorem c_L_need (l : Launch)  (D : va_G) (cI : ClassId) (x0 g0 g1 g2 g3 g4 l0 l1 l2 l3 l4 l5 t0 t1 t2 : Nat) (xr : Int32) (xt : Int32) (gn : AA) (gu : AA) (gb : AA) (ga : AA) (lc : Int32) (lk : AA) (ln : AA) (lt : AA) (ll : AA) (lr : AA) (tw : Int32) (tn : AA) (tt : AA) (sz : Nat) (a1 a2 : Int32) (hp : p_L_need gn gu gb ga a1 a2) (hst : l.stackTraces = false) : Met l yL_need wsL_need rm_L_need (va_Pc [.ref x0, .int a1, .int a2] (PX D [(cI, .int)] sz (W_X4 cI x0 g0 g1 g2 g3 g4 l0 l1 l2 l3 l4 l5 t0 t1 t2 xr xt gn gu gb ga lc lk ln lt ll lr tw tn tt))) (Q_L_need D cI x0 g0 g1 g2 g3 g4 l0 l1 l2 l3 l4 l5 t0 t1 t2 xr xt gn gu gb ga lc lk ln lt ll lr tw tn tt a1 a2 (va_A (W_X4 cI x0 g0 g1 g2 g3 g4 l0 l1 l2 l3 l4 l5 t0 t1 t2 xr xt gn gu gb ga lc lk ln lt ll lr tw tn tt) sz)) 3 18 (va_A (W_X4 cI x0 g0 g1 g2 g3 g4 l0 l1 l2 l3 l4 l5 t0 t1 t2 xr xt gn gu gb ga lc lk ln lt ll lr tw tn tt) sz) := by
  refine va_MetW (cc := cL_need) (maxL := 4) (ret := (some .int)) (hh := [(0, 14, 15, 15), (0, 14, 19, 17)]) (by decide) rfl ?_
  intro p e s m args below meth c s₁ B hml hv
  obtain ⟨rfl, ⟨hsz, hP, hK, hD0, hN⟩, hXB⟩ := hv
  have hx := B.exec
  have hb := B.bytes
  have hr := B.returns
  have hts := atoms_spec (ws := wsL_need) B.pre
  have hown : s.vm.findClass RL = some m.cls := findClass_of_methodNamed B.named
  have hlocks := B.notSynchronized
  have htab := vx_table (x := yL_need) B (hts (.codeWith yL_need cL_need 4 (some .int) [(0, 14, 15, 15), (0, 14, 19, 17)]) (by decide +kernel))
  subst hsz
  have hD := hD0.self (sz := s.heap.size)
  generalize hAe : va_A (W_X4 cI x0 g0 g1 g2 g3 g4 l0 l1 l2 l3 l4 l5 t0 t1 t2 xr xt gn gu gb ga lc lk ln lt ll lr tw tn tt) s.heap.size = A at hD hXB ⊢
  have hA : ∀ q : Nat, s.heap.size ≤ q → A q := fun q h => by rw [← hAe]; exact Or.inr h
  have hS : va_S A s.heap s.heap [] := va_S.rf
  have hl := lv_entry ([.ref x0, .int a1, .int a2]) (n := 4) (Nat.le_of_ble_eq_true rfl)
  rw [lg_entry_eq]
  generalize (lg_sl ([.ref x0, .int a1, .int a2]) ++ List.replicate (4 - (lg_sl ([.ref x0, .int a1, .int a2])).length) Slot.unset).toArray = ls at hl ⊢
  have hl : lv_has ls 4 [(0, .ref x0), (1, .int a1), (2, .int a2)] := hl
  have he := f_L_need.eq_1 gn gu gb ga a1 a2
  replace hp := Eq.mp (p_L_need.eq_1 ..) hp
  refine lv_aload_n hx hb dL_need_0 rfl (lv_at hl 0 rfl) ?_
  refine lv_iload_n hx hb dL_need_1 rfl (lv_at hl 1 rfl) ?_
  refine lv_iload_n hx hb dL_need_2 rfl (lv_at hl 2 rfl) ?_
  have hq1 := hp.1
  replace hp := hp.2
  refine k_xcalli (S := AA × AA × AA × AA) (px := fun E => f_X4_need gn gu gb ga a1 a2 = .inl E ∧ (E = eIO ∨ E = eIA)) (wc := (W_X4 cI x0 g0 g1 g2 g3 g4 l0 l1 l2 l3 l4 l5 t0 t1 t2 xr xt gn gu gb ga lc lk ln lt ll lr tw tn tt)) (wr := ([] : va_W)) (w1 := fun u => (W_X4 cI x0 g0 g1 g2 g3 g4 l0 l1 l2 l3 l4 l5 t0 t1 t2 xr xt u.1 u.2.1 u.2.2.1 u.2.2.2 lc lk ln lt ll lr tw tn tt)) (fun u => (W_X4 cI x0 g0 g1 g2 g3 g4 l0 l1 l2 l3 l4 l5 t0 t1 t2 xr xt u.1 u.2.1 u.2.2.1 u.2.2.2 lc lk ln lt ll lr tw tn tt)) hP hK hD hN hXB hS hA [0, 1, 2, 3, 4, 5, 6, 7, 8, 9, 10, 11, 12, 13, 14] [] rfl rfl (by decide) (by decide) (by decide) [0, 1, 2, 3, 4, 5, 6, 7, 8, 9, 10, 11, 12, 13, 14] (by decide) (fun _ => rfl) rfl (fun hg => vx_runV (As := [.int a1, .int a2]) (rest := []) ⟨hx, hb, hml, hown, hts⟩ (c_X4_need l D cI x0 g0 g1 g2 g3 g4 l0 l1 l2 l3 l4 l5 t0 t1 t2 xr xt gn gu gb ga lc lk ln lt ll lr tw tn tt _ a1 a2 hq1 hst) (cwV 2 hts gL_need_X4_need rfl rfl rfl (by decide +kernel) ⟨Nat.le_of_ble_eq_true rfl, Nat.le_of_ble_eq_true rfl⟩) ⟨PX.blind, va_recv hK hP (ci := 4) (q0 := 0) rfl rfl, fun U hU hW => ⟨rfl, hg U hU hW⟩⟩ rfl rfl hl.1 rfl (lv_room (Nat.le_of_ble_eq_true rfl)) dL_need_3 ⟨Nat.le_of_ble_eq_true rfl, Nat.le_of_ble_eq_true rfl⟩) (fun E ce q9 H locs hw hP hD hS hc9 hv9 hcl9 => ?_) (fun r1 u H locs hw hP hD hS => ?_)
  · rw [hw.1] at he
    try dsimp only at he
    rcases hw.2 with hE | hE
    · subst hE
      replace he := he.trans (if_pos rfl)
      refine vx_catch (own := RL) (name := eIO) hown [] ⟨0, 14, 15, 15⟩ [⟨0, 14, 19, 17⟩] htab (fun z hz => absurd hz List.not_mem_nil) (by decide) (by decide) (hts (.classLink RL 15 eIO) (by decide +kernel)) (hXB.cast (w := .castable eIO eIO) (by decide +kernel)) hc9 hv9 hcl9 ?_
      refine lv_astore_n (lv' := [(3, .ref q9), (0, .ref x0), (1, .int a1), (2, .int a2)]) hx hb dL_need_15 rfl hl (by decide) rfl (fun ls hl => ?_)
      refine lv_bipush (v := (-101)) hx hb dL_need_16 (by decide) ?_
      exact W.iret (v := (-101)) hx hb hr (fun t ht hW => ⟨⟨(-101), (gn, gu, gb, ga), rfl, he, by rw [ht]; exact hP, va_K.moved hW.alike hK, hD⟩, hS.F ht⟩) hS.2.2 dL_need_18
    · subst hE
      replace he := he.trans (if_neg (by decide +kernel))
      refine vx_catch (own := RL) (name := eIA) hown [⟨0, 14, 15, 15⟩] ⟨0, 14, 19, 17⟩ [] htab (fun z hz => by rcases List.mem_singleton.mp hz with rfl; exact Or.inr ⟨by decide, eIO, hts (.classLink RL 15 eIO) (by decide +kernel), hXB.2.2.2.1⟩) (by decide) (by decide) (hts (.classLink RL 17 eIA) (by decide +kernel)) (hXB.cast (w := .castable eIA eIA) (by decide +kernel)) hc9 hv9 hcl9 ?_
      refine lv_astore_n (lv' := [(3, .ref q9), (0, .ref x0), (1, .int a1), (2, .int a2)]) hx hb dL_need_19 rfl hl (by decide) rfl (fun ls hl => ?_)
      refine lv_bipush (v := (-102)) hx hb dL_need_20 (by decide) ?_
      exact W.iret (v := (-102)) hx hb hr (fun t ht hW => ⟨⟨(-102), (gn, gu, gb, ga), rfl, he, by rw [ht]; exact hP, va_K.moved hW.alike hK, hD⟩, hS.F ht⟩) hS.2.2 dL_need_22
  · obtain ⟨u1_0, u1_1, u1_2, u1_3⟩ := u
    obtain ⟨hw, hb1⟩ := hw
    rw [hw] at he
    try dsimp only at he
    replace hp := hp r1 u1_0 u1_1 u1_2 u1_3 hw
    have hP : va_P D vwCl (W_X4 cI x0 g0 g1 g2 g3 g4 l0 l1 l2 l3 l4 l5 t0 t1 t2 xr xt u1_0 u1_1 u1_2 u1_3 lc lk ln lt ll lr tw tn tt) H := hP
    have hD : va_D A (W_X4 cI x0 g0 g1 g2 g3 g4 l0 l1 l2 l3 l4 l5 t0 t1 t2 xr xt u1_0 u1_1 u1_2 u1_3 lc lk ln lt ll lr tw tn tt) := hD
    obtain ⟨j2, hJ2⟩ : ∃ z : Int32, z = (if r1 = 0 then (0 : Int32) else (1 : Int32)) := ⟨_, rfl⟩
    rw [← hJ2] at he
    try dsimp only at he
    have hpJ2 := hp.1
    replace hp := hp.2 _  hJ2.symm
    have kont2 : (j2 = 0 ∨ j2 = 1) → ∀ (H : Heap) (locs : List Loc), va_P D vwCl (W_X4 cI x0 g0 g1 g2 g3 g4 l0 l1 l2 l3 l4 l5 t0 t1 t2 xr xt u1_0 u1_1 u1_2 u1_3 lc lk ln lt ll lr tw tn tt) H → va_D A (W_X4 cI x0 g0 g1 g2 g3 g4 l0 l1 l2 l3 l4 l5 t0 t1 t2 xr xt u1_0 u1_1 u1_2 u1_3 lc lk ln lt ll lr tw tn tt) → va_S A s.heap H locs → ∀ ls : Array Slot, lv_has ls 4 [] → W p l e (headSpec wsL_need rm_L_need).room s m ([.ref x0, .int a1, .int a2] : List Value).toArray below meth c H locs 3 18 (MQ below (Q_L_need D cI x0 g0 g1 g2 g3 g4 l0 l1 l2 l3 l4 l5 t0 t1 t2 xr xt gn gu gb ga lc lk ln lt ll lr tw tn tt a1 a2 A) ([.ref x0, .int a1, .int a2] : List Value).toArray s 3 18 A) (F0 m 14 ls [.int j2]) := by
      intro hb2 H locs hP hD hS ls hl
      exact W.iret (v := j2) hx hb hr (fun t ht hW => ⟨⟨j2, (u1_0, u1_1, u1_2, u1_3), rfl, he, by rw [ht]; exact hP, va_K.moved hW.alike hK, hD⟩, hS.F ht⟩) hS.2.2 dL_need_14
    replace he := hJ2
    replace hp := hpJ2
    refine lv_if_eq (tgt := 13) hx hb dL_need_6 (by decide) (fun c3 => ?_) (fun c3 => ?_)
    · replace hp := hp.1 c3
      replace he := he.trans (if_pos c3)
      refine lv_iconst (v := 0) hx hb dL_need_13 (by decide) ?_
      subst he
      exact kont2 (Or.inl rfl) _ _ hP hD hS _ (lv_sub hl [] rfl)
    · replace hp := hp.2 c3
      replace he := he.trans (if_neg c3)
      refine lv_iconst (v := 1) hx hb dL_need_9 (by decide) ?_
      refine lv_goto (tgt := 14) hx hb dL_need_10 (by decide) ?_
      subst he
      exact kont2 (Or.inr rfl) _ _ hP hD hS _ (lv_sub hl [] rfl)
abbrev rm_L_release : Room := { frames := 8, cells := 2, slots := 12, locals := 153 }
abbrev Q_L_release (D : va_G) (cI : ClassId) (x0 g0 g1 g2 g3 g4 l0 l1 l2 l3 l4 l5 t0 t1 t2 : Nat) (xr : Int32) (xt : Int32) (gn : AA) (gu : AA) (gb : AA) (ga : AA) (lc : Int32) (lk : AA) (ln : AA) (lt : AA) (ll : AA) (lr : AA) (tw : Int32) (tn : AA) (tt : AA) (a1 a2 : Int32) (A : Nat → Prop) : Array Value → State → Outcome → State → Prop := va_Qi (S := AA × AA × AA × AA) (fun r u => f_L_release gn gu gb ga a1 a2 = (r, u)) (fun u t => QW D [(cI, .int)] A (W_X4 cI x0 g0 g1 g2 g3 g4 l0 l1 l2 l3 l4 l5 t0 t1 t2 xr xt u.1 u.2.1 u.2.2.1 u.2.2.2 lc lk ln lt ll lr tw tn tt) t) A
set_option maxHeartbeats 4000000 in
set_option maxRecDepth 100000 in
theorem c_L_release (l : Launch)  (D : va_G) (cI : ClassId) (x0 g0 g1 g2 g3 g4 l0 l1 l2 l3 l4 l5 t0 t1 t2 : Nat) (xr : Int32) (xt : Int32) (gn : AA) (gu : AA) (gb : AA) (ga : AA) (lc : Int32) (lk : AA) (ln : AA) (lt : AA) (ll : AA) (lr : AA) (tw : Int32) (tn : AA) (tt : AA) (sz : Nat) (a1 a2 : Int32) (hp : p_L_release gn gu gb ga a1 a2) (hst : l.stackTraces = false) : Met l yL_release wsL_release rm_L_release (va_Pc [.ref x0, .int a1, .int a2] (PX D [(cI, .int)] sz (W_X4 cI x0 g0 g1 g2 g3 g4 l0 l1 l2 l3 l4 l5 t0 t1 t2 xr xt gn gu gb ga lc lk ln lt ll lr tw tn tt))) (Q_L_release D cI x0 g0 g1 g2 g3 g4 l0 l1 l2 l3 l4 l5 t0 t1 t2 xr xt gn gu gb ga lc lk ln lt ll lr tw tn tt a1 a2 (va_A (W_X4 cI x0 g0 g1 g2 g3 g4 l0 l1 l2 l3 l4 l5 t0 t1 t2 xr xt gn gu gb ga lc lk ln lt ll lr tw tn tt) sz)) 2 12 (va_A (W_X4 cI x0 g0 g1 g2 g3 g4 l0 l1 l2 l3 l4 l5 t0 t1 t2 xr xt gn gu gb ga lc lk ln lt ll lr tw tn tt) sz) := by
  refine va_MetW (cc := cL_release) (maxL := 4) (ret := (some .int)) (hh := [(0, 14, 15, 15)]) (by decide) rfl ?_
  intro p e s m args below meth c s₁ B hml hv
  obtain ⟨rfl, ⟨hsz, hP, hK, hD0, hN⟩, hXB⟩ := hv
  have hx := B.exec
  have hb := B.bytes
  have hr := B.returns
  have hts := atoms_spec (ws := wsL_release) B.pre
  have hown : s.vm.findClass RL = some m.cls := findClass_of_methodNamed B.named
  have hlocks := B.notSynchronized
  have htab := vx_table (x := yL_release) B (hts (.codeWith yL_release cL_release 4 (some .int) [(0, 14, 15, 15)]) (by decide +kernel))
  subst hsz
  have hD := hD0.self (sz := s.heap.size)
  generalize hAe : va_A (W_X4 cI x0 g0 g1 g2 g3 g4 l0 l1 l2 l3 l4 l5 t0 t1 t2 xr xt gn gu gb ga lc lk ln lt ll lr tw tn tt) s.heap.size = A at hD hXB ⊢
  have hA : ∀ q : Nat, s.heap.size ≤ q → A q := fun q h => by rw [← hAe]; exact Or.inr h
  have hS : va_S A s.heap s.heap [] := va_S.rf
  have hl := lv_entry ([.ref x0, .int a1, .int a2]) (n := 4) (Nat.le_of_ble_eq_true rfl)
  rw [lg_entry_eq]
  generalize (lg_sl ([.ref x0, .int a1, .int a2]) ++ List.replicate (4 - (lg_sl ([.ref x0, .int a1, .int a2])).length) Slot.unset).toArray = ls at hl ⊢
  have hl : lv_has ls 4 [(0, .ref x0), (1, .int a1), (2, .int a2)] := hl
  have he := f_L_release.eq_1 gn gu gb ga a1 a2
  replace hp := Eq.mp (p_L_release.eq_1 ..) hp
  refine lv_aload_n hx hb dL_release_0 rfl (lv_at hl 0 rfl) ?_
  refine lv_iload_n hx hb dL_release_1 rfl (lv_at hl 1 rfl) ?_
  refine lv_iload_n hx hb dL_release_2 rfl (lv_at hl 2 rfl) ?_
  have hq1 := hp.1
  replace hp := hp.2
  refine k_xcalli (S := AA × AA × AA × AA) (px := fun E => f_X4_release gn gu gb ga a1 a2 = .inl E ∧ (E = eIO)) (wc := (W_X4 cI x0 g0 g1 g2 g3 g4 l0 l1 l2 l3 l4 l5 t0 t1 t2 xr xt gn gu gb ga lc lk ln lt ll lr tw tn tt)) (wr := ([] : va_W)) (w1 := fun u => (W_X4 cI x0 g0 g1 g2 g3 g4 l0 l1 l2 l3 l4 l5 t0 t1 t2 xr xt u.1 u.2.1 u.2.2.1 u.2.2.2 lc lk ln lt ll lr tw tn tt)) (fun u => (W_X4 cI x0 g0 g1 g2 g3 g4 l0 l1 l2 l3 l4 l5 t0 t1 t2 xr xt u.1 u.2.1 u.2.2.1 u.2.2.2 lc lk ln lt ll lr tw tn tt)) hP hK hD hN hXB hS hA [0, 1, 2, 3, 4, 5, 6, 7, 8, 9, 10, 11, 12, 13, 14] [] rfl rfl (by decide) (by decide) (by decide) [0, 1, 2, 3, 4, 5, 6, 7, 8, 9, 10, 11, 12, 13, 14] (by decide) (fun _ => rfl) rfl (fun hg => vx_runV (As := [.int a1, .int a2]) (rest := []) ⟨hx, hb, hml, hown, hts⟩ (c_X4_release l D cI x0 g0 g1 g2 g3 g4 l0 l1 l2 l3 l4 l5 t0 t1 t2 xr xt gn gu gb ga lc lk ln lt ll lr tw tn tt _ a1 a2 hq1 hst) (cwV 2 hts gL_release_X4_release rfl rfl rfl (by decide +kernel) ⟨Nat.le_of_ble_eq_true rfl, Nat.le_of_ble_eq_true rfl⟩) ⟨PX.blind, va_recv hK hP (ci := 4) (q0 := 0) rfl rfl, fun U hU hW => ⟨rfl, hg U hU hW⟩⟩ rfl rfl hl.1 rfl (lv_room (Nat.le_of_ble_eq_true rfl)) dL_release_3 ⟨Nat.le_of_ble_eq_true rfl, Nat.le_of_ble_eq_true rfl⟩) (fun E ce q9 H locs hw hP hD hS hc9 hv9 hcl9 => ?_) (fun r1 u H locs hw hP hD hS => ?_)
  · rw [hw.1] at he
    try dsimp only at he
    have hE := hw.2
    subst hE
    refine vx_catch (own := RL) (name := eIO) hown [] ⟨0, 14, 15, 15⟩ [] htab (fun z hz => absurd hz List.not_mem_nil) (by decide) (by decide) (hts (.classLink RL 15 eIO) (by decide +kernel)) (hXB.cast (w := .castable eIO eIO) (by decide +kernel)) hc9 hv9 hcl9 ?_
    refine lv_astore_n (lv' := [(3, .ref q9), (0, .ref x0), (1, .int a1), (2, .int a2)]) hx hb dL_release_15 rfl hl (by decide) rfl (fun ls hl => ?_)
    refine lv_bipush (v := (-101)) hx hb dL_release_16 (by decide) ?_
    exact W.iret (v := (-101)) hx hb hr (fun t ht hW => ⟨⟨(-101), (gn, gu, gb, ga), rfl, he, by rw [ht]; exact hP, va_K.moved hW.alike hK, hD⟩, hS.F ht⟩) hS.2.2 dL_release_18
  · obtain ⟨u1_0, u1_1, u1_2, u1_3⟩ := u
    obtain ⟨hw, hb1⟩ := hw
    rw [hw] at he
    try dsimp only at he
    replace hp := hp r1 u1_0 u1_1 u1_2 u1_3 hw
    have hP : va_P D vwCl (W_X4 cI x0 g0 g1 g2 g3 g4 l0 l1 l2 l3 l4 l5 t0 t1 t2 xr xt u1_0 u1_1 u1_2 u1_3 lc lk ln lt ll lr tw tn tt) H := hP
    have hD : va_D A (W_X4 cI x0 g0 g1 g2 g3 g4 l0 l1 l2 l3 l4 l5 t0 t1 t2 xr xt u1_0 u1_1 u1_2 u1_3 lc lk ln lt ll lr tw tn tt) := hD
    obtain ⟨j2, hJ2⟩ : ∃ z : Int32, z = (if r1 = 0 then (0 : Int32) else (1 : Int32)) := ⟨_, rfl⟩
    rw [← hJ2] at he
    try dsimp only at he
    have hpJ2 := hp.1
    replace hp := hp.2 _  hJ2.symm
    have kont2 : (j2 = 0 ∨ j2 = 1) → ∀ (H : Heap) (locs : List Loc), va_P D vwCl (W_X4 cI x0 g0 g1 g2 g3 g4 l0 l1 l2 l3 l4 l5 t0 t1 t2 xr xt u1_0 u1_1 u1_2 u1_3 lc lk ln lt ll lr tw tn tt) H → va_D A (W_X4 cI x0 g0 g1 g2 g3 g4 l0 l1 l2 l3 l4 l5 t0 t1 t2 xr xt u1_0 u1_1 u1_2 u1_3 lc lk ln lt ll lr tw tn tt) → va_S A s.heap H locs → ∀ ls : Array Slot, lv_has ls 4 [] → W p l e (headSpec wsL_release rm_L_release).room s m ([.ref x0, .int a1, .int a2] : List Value).toArray below meth c H locs 2 12 (MQ below (Q_L_release D cI x0 g0 g1 g2 g3 g4 l0 l1 l2 l3 l4 l5 t0 t1 t2 xr xt gn gu gb ga lc lk ln lt ll lr tw tn tt a1 a2 A) ([.ref x0, .int a1, .int a2] : List Value).toArray s 2 12 A) (F0 m 14 ls [.int j2]) := by
      intro hb2 H locs hP hD hS ls hl
      exact W.iret (v := j2) hx hb hr (fun t ht hW => ⟨⟨j2, (u1_0, u1_1, u1_2, u1_3), rfl, he, by rw [ht]; exact hP, va_K.moved hW.alike hK, hD⟩, hS.F ht⟩) hS.2.2 dL_release_14
    replace he := hJ2
    replace hp := hpJ2
    refine lv_if_eq (tgt := 13) hx hb dL_release_6 (by decide) (fun c3 => ?_) (fun c3 => ?_)
    · replace hp := hp.1 c3
      replace he := he.trans (if_pos c3)
      refine lv_iconst (v := 0) hx hb dL_release_13 (by decide) ?_
      subst he
      exact kont2 (Or.inl rfl) _ _ hP hD hS _ (lv_sub hl [] rfl)
    · replace hp := hp.2 c3
      replace he := he.trans (if_neg c3)
      refine lv_iconst (v := 1) hx hb dL_release_9 (by decide) ?_
      refine lv_goto (tgt := 14) hx hb dL_release_10 (by decide) ?_
      subst he
      exact kont2 (Or.inr rfl) _ _ hP hD hS _ (lv_sub hl [] rfl)
abbrev rm_L_needs : Room := { frames := 8, cells := 2, slots := 12, locals := 124 }
abbrev Q_L_needs (D : va_G) (cI : ClassId) (x0 g0 g1 g2 g3 g4 l0 l1 l2 l3 l4 l5 t0 t1 t2 : Nat) (xr : Int32) (xt : Int32) (gn : AA) (gu : AA) (gb : AA) (ga : AA) (lc : Int32) (lk : AA) (ln : AA) (lt : AA) (ll : AA) (lr : AA) (tw : Int32) (tn : AA) (tt : AA) (a1 a2 : Int32) (A : Nat → Prop) : Array Value → State → Outcome → State → Prop := va_Qi (S := Unit) (fun r u => f_L_needs gn a1 a2 = r) (fun u t => QW D [(cI, .int)] A (W_X4 cI x0 g0 g1 g2 g3 g4 l0 l1 l2 l3 l4 l5 t0 t1 t2 xr xt gn gu gb ga lc lk ln lt ll lr tw tn tt) t) A
set_option maxHeartbeats 4000000 in
set_option maxRecDepth 100000 in
theorem c_L_needs (l : Launch)  (D : va_G) (cI : ClassId) (x0 g0 g1 g2 g3 g4 l0 l1 l2 l3 l4 l5 t0 t1 t2 : Nat) (xr : Int32) (xt : Int32) (gn : AA) (gu : AA) (gb : AA) (ga : AA) (lc : Int32) (lk : AA) (ln : AA) (lt : AA) (ll : AA) (lr : AA) (tw : Int32) (tn : AA) (tt : AA) (sz : Nat) (a1 a2 : Int32) (hp : p_L_needs gn a1 a2) (hst : l.stackTraces = false) : Met l yL_needs wsL_needs rm_L_needs (va_Pc [.ref x0, .int a1, .int a2] (PX D [(cI, .int)] sz (W_X4 cI x0 g0 g1 g2 g3 g4 l0 l1 l2 l3 l4 l5 t0 t1 t2 xr xt gn gu gb ga lc lk ln lt ll lr tw tn tt))) (Q_L_needs D cI x0 g0 g1 g2 g3 g4 l0 l1 l2 l3 l4 l5 t0 t1 t2 xr xt gn gu gb ga lc lk ln lt ll lr tw tn tt a1 a2 (va_A (W_X4 cI x0 g0 g1 g2 g3 g4 l0 l1 l2 l3 l4 l5 t0 t1 t2 xr xt gn gu gb ga lc lk ln lt ll lr tw tn tt) sz)) 2 12 (va_A (W_X4 cI x0 g0 g1 g2 g3 g4 l0 l1 l2 l3 l4 l5 t0 t1 t2 xr xt gn gu gb ga lc lk ln lt ll lr tw tn tt) sz) := by
  refine va_MetW (cc := cL_needs) (maxL := 4) (ret := (some .int)) (hh := [(0, 14, 15, 15)]) (by decide) rfl ?_
  intro p e s m args below meth c s₁ B hml hv
  obtain ⟨rfl, ⟨hsz, hP, hK, hD0, hN⟩, hXB⟩ := hv
  have hx := B.exec
  have hb := B.bytes
  have hr := B.returns
  have hts := atoms_spec (ws := wsL_needs) B.pre
  have hown : s.vm.findClass RL = some m.cls := findClass_of_methodNamed B.named
  have hlocks := B.notSynchronized
  have htab := vx_table (x := yL_needs) B (hts (.codeWith yL_needs cL_needs 4 (some .int) [(0, 14, 15, 15)]) (by decide +kernel))
  subst hsz
  have hD := hD0.self (sz := s.heap.size)
  generalize hAe : va_A (W_X4 cI x0 g0 g1 g2 g3 g4 l0 l1 l2 l3 l4 l5 t0 t1 t2 xr xt gn gu gb ga lc lk ln lt ll lr tw tn tt) s.heap.size = A at hD hXB ⊢
  have hA : ∀ q : Nat, s.heap.size ≤ q → A q := fun q h => by rw [← hAe]; exact Or.inr h
  have hS : va_S A s.heap s.heap [] := va_S.rf
  have hl := lv_entry ([.ref x0, .int a1, .int a2]) (n := 4) (Nat.le_of_ble_eq_true rfl)
  rw [lg_entry_eq]
  generalize (lg_sl ([.ref x0, .int a1, .int a2]) ++ List.replicate (4 - (lg_sl ([.ref x0, .int a1, .int a2])).length) Slot.unset).toArray = ls at hl ⊢
  have hl : lv_has ls 4 [(0, .ref x0), (1, .int a1), (2, .int a2)] := hl
  have he := f_L_needs.eq_1 gn a1 a2
  replace hp := Eq.mp (p_L_needs.eq_1 ..) hp
  refine lv_aload_n hx hb dL_needs_0 rfl (lv_at hl 0 rfl) ?_
  refine lv_iload_n hx hb dL_needs_1 rfl (lv_at hl 1 rfl) ?_
  refine lv_iload_n hx hb dL_needs_2 rfl (lv_at hl 2 rfl) ?_
  have hq1 := hp.1
  replace hp := hp.2
  refine k_xcalli (S := Unit) (px := fun E => f_X4_needs gn a1 a2 = .inl E ∧ (E = eIO)) (wc := (W_X4 cI x0 g0 g1 g2 g3 g4 l0 l1 l2 l3 l4 l5 t0 t1 t2 xr xt gn gu gb ga lc lk ln lt ll lr tw tn tt)) (wr := ([] : va_W)) (w1 := fun u => (W_X4 cI x0 g0 g1 g2 g3 g4 l0 l1 l2 l3 l4 l5 t0 t1 t2 xr xt gn gu gb ga lc lk ln lt ll lr tw tn tt)) (fun u => (W_X4 cI x0 g0 g1 g2 g3 g4 l0 l1 l2 l3 l4 l5 t0 t1 t2 xr xt gn gu gb ga lc lk ln lt ll lr tw tn tt)) hP hK hD hN hXB hS hA [0, 1, 2, 3, 4, 5, 6, 7, 8, 9, 10, 11, 12, 13, 14] [] rfl rfl (by decide) (by decide) (by decide) [0, 1, 2, 3, 4, 5, 6, 7, 8, 9, 10, 11, 12, 13, 14] (by decide) (fun _ => rfl) rfl (fun hg => vx_runV (As := [.int a1, .int a2]) (rest := []) ⟨hx, hb, hml, hown, hts⟩ (c_X4_needs l D cI x0 g0 g1 g2 g3 g4 l0 l1 l2 l3 l4 l5 t0 t1 t2 xr xt gn gu gb ga lc lk ln lt ll lr tw tn tt _ a1 a2 hq1 hst) (cwV 2 hts gL_needs_X4_needs rfl rfl rfl (by decide +kernel) ⟨Nat.le_of_ble_eq_true rfl, Nat.le_of_ble_eq_true rfl⟩) ⟨PX.blind, va_recv hK hP (ci := 4) (q0 := 0) rfl rfl, fun U hU hW => ⟨rfl, hg U hU hW⟩⟩ rfl rfl hl.1 rfl (lv_room (Nat.le_of_ble_eq_true rfl)) dL_needs_3 ⟨Nat.le_of_ble_eq_true rfl, Nat.le_of_ble_eq_true rfl⟩) (fun E ce q9 H locs hw hP hD hS hc9 hv9 hcl9 => ?_) (fun r1 u H locs hw hP hD hS => ?_)
  · rw [hw.1] at he
    try dsimp only at he
    have hE := hw.2
    subst hE
    refine vx_catch (own := RL) (name := eIO) hown [] ⟨0, 14, 15, 15⟩ [] htab (fun z hz => absurd hz List.not_mem_nil) (by decide) (by decide) (hts (.classLink RL 15 eIO) (by decide +kernel)) (hXB.cast (w := .castable eIO eIO) (by decide +kernel)) hc9 hv9 hcl9 ?_
    refine lv_astore_n (lv' := [(3, .ref q9), (0, .ref x0), (1, .int a1), (2, .int a2)]) hx hb dL_needs_15 rfl hl (by decide) rfl (fun ls hl => ?_)
    refine lv_bipush (v := (-101)) hx hb dL_needs_16 (by decide) ?_
    exact W.iret (v := (-101)) hx hb hr (fun t ht hW => ⟨⟨(-101), (), rfl, he, by rw [ht]; exact hP, va_K.moved hW.alike hK, hD⟩, hS.F ht⟩) hS.2.2 dL_needs_18
  · obtain ⟨hw, hb1⟩ := hw
    rw [hw] at he
    try dsimp only at he
    replace hp := hp r1 hw
    obtain ⟨j2, hJ2⟩ : ∃ z : Int32, z = (if r1 = 0 then (0 : Int32) else (1 : Int32)) := ⟨_, rfl⟩
    rw [← hJ2] at he
    try dsimp only at he
    have hpJ2 := hp.1
    replace hp := hp.2 _  hJ2.symm
    have kont2 : (j2 = 0 ∨ j2 = 1) → ∀ (H : Heap) (locs : List Loc), va_P D vwCl (W_X4 cI x0 g0 g1 g2 g3 g4 l0 l1 l2 l3 l4 l5 t0 t1 t2 xr xt gn gu gb ga lc lk ln lt ll lr tw tn tt) H → va_D A (W_X4 cI x0 g0 g1 g2 g3 g4 l0 l1 l2 l3 l4 l5 t0 t1 t2 xr xt gn gu gb ga lc lk ln lt ll lr tw tn tt) → va_S A s.heap H locs → ∀ ls : Array Slot, lv_has ls 4 [] → W p l e (headSpec wsL_needs rm_L_needs).room s m ([.ref x0, .int a1, .int a2] : List Value).toArray below meth c H locs 2 12 (MQ below (Q_L_needs D cI x0 g0 g1 g2 g3 g4 l0 l1 l2 l3 l4 l5 t0 t1 t2 xr xt gn gu gb ga lc lk ln lt ll lr tw tn tt a1 a2 A) ([.ref x0, .int a1, .int a2] : List Value).toArray s 2 12 A) (F0 m 14 ls [.int j2]) := by
      intro hb2 H locs hP hD hS ls hl
      exact W.iret (v := j2) hx hb hr (fun t ht hW => ⟨⟨j2, (), rfl, he, by rw [ht]; exact hP, va_K.moved hW.alike hK, hD⟩, hS.F ht⟩) hS.2.2 dL_needs_14
    replace he := hJ2
    replace hp := hpJ2
    refine lv_if_eq (tgt := 13) hx hb dL_needs_6 (by decide) (fun c3 => ?_) (fun c3 => ?_)
    · replace hp := hp.1 c3
      replace he := he.trans (if_pos c3)
      refine lv_iconst (v := 0) hx hb dL_needs_13 (by decide) ?_
      subst he
      exact kont2 (Or.inl rfl) _ _ hP hD hS _ (lv_sub hl [] rfl)
    · replace hp := hp.2 c3
      replace he := he.trans (if_neg c3)
      refine lv_iconst (v := 1) hx hb dL_needs_9 (by decide) ?_
      refine lv_goto (tgt := 14) hx hb dL_needs_10 (by decide) ?_
      subst he
      exact kont2 (Or.inr rfl) _ _ hP hD hS _ (lv_sub hl [] rfl)
abbrev rm_L_depends : Room := { frames := 8, cells := 2, slots := 12, locals := 124 }
abbrev Q_L_depends (D : va_G) (cI : ClassId) (x0 g0 g1 g2 g3 g4 l0 l1 l2 l3 l4 l5 t0 t1 t2 : Nat) (xr : Int32) (xt : Int32) (gn : AA) (gu : AA) (gb : AA) (ga : AA) (lc : Int32) (lk : AA) (ln : AA) (lt : AA) (ll : AA) (lr : AA) (tw : Int32) (tn : AA) (tt : AA) (a1 a2 : Int32) (A : Nat → Prop) : Array Value → State → Outcome → State → Prop := va_Qi (S := Unit) (fun r u => f_L_depends gb a1 a2 = r) (fun u t => QW D [(cI, .int)] A (W_X4 cI x0 g0 g1 g2 g3 g4 l0 l1 l2 l3 l4 l5 t0 t1 t2 xr xt gn gu gb ga lc lk ln lt ll lr tw tn tt) t) A
set_option maxHeartbeats 4000000 in
set_option maxRecDepth 100000 in
theorem c_L_depends (l : Launch)  (D : va_G) (cI : ClassId) (x0 g0 g1 g2 g3 g4 l0 l1 l2 l3 l4 l5 t0 t1 t2 : Nat) (xr : Int32) (xt : Int32) (gn : AA) (gu : AA) (gb : AA) (ga : AA) (lc : Int32) (lk : AA) (ln : AA) (lt : AA) (ll : AA) (lr : AA) (tw : Int32) (tn : AA) (tt : AA) (sz : Nat) (a1 a2 : Int32) (hp : p_L_depends gb a1 a2) (hst : l.stackTraces = false) : Met l yL_depends wsL_depends rm_L_depends (va_Pc [.ref x0, .int a1, .int a2] (PX D [(cI, .int)] sz (W_X4 cI x0 g0 g1 g2 g3 g4 l0 l1 l2 l3 l4 l5 t0 t1 t2 xr xt gn gu gb ga lc lk ln lt ll lr tw tn tt))) (Q_L_depends D cI x0 g0 g1 g2 g3 g4 l0 l1 l2 l3 l4 l5 t0 t1 t2 xr xt gn gu gb ga lc lk ln lt ll lr tw tn tt a1 a2 (va_A (W_X4 cI x0 g0 g1 g2 g3 g4 l0 l1 l2 l3 l4 l5 t0 t1 t2 xr xt gn gu gb ga lc lk ln lt ll lr tw tn tt) sz)) 2 12 (va_A (W_X4 cI x0 g0 g1 g2 g3 g4 l0 l1 l2 l3 l4 l5 t0 t1 t2 xr xt gn gu gb ga lc lk ln lt ll lr tw tn tt) sz) := by
  refine va_MetW (cc := cL_depends) (maxL := 4) (ret := (some .int)) (hh := [(0, 14, 15, 15)]) (by decide) rfl ?_
  intro p e s m args below meth c s₁ B hml hv
  obtain ⟨rfl, ⟨hsz, hP, hK, hD0, hN⟩, hXB⟩ := hv
  have hx := B.exec
  have hb := B.bytes
  have hr := B.returns
  have hts := atoms_spec (ws := wsL_depends) B.pre
  have hown : s.vm.findClass RL = some m.cls := findClass_of_methodNamed B.named
  have hlocks := B.notSynchronized
  have htab := vx_table (x := yL_depends) B (hts (.codeWith yL_depends cL_depends 4 (some .int) [(0, 14, 15, 15)]) (by decide +kernel))
  subst hsz
  have hD := hD0.self (sz := s.heap.size)
  generalize hAe : va_A (W_X4 cI x0 g0 g1 g2 g3 g4 l0 l1 l2 l3 l4 l5 t0 t1 t2 xr xt gn gu gb ga lc lk ln lt ll lr tw tn tt) s.heap.size = A at hD hXB ⊢
  have hA : ∀ q : Nat, s.heap.size ≤ q → A q := fun q h => by rw [← hAe]; exact Or.inr h
  have hS : va_S A s.heap s.heap [] := va_S.rf
  have hl := lv_entry ([.ref x0, .int a1, .int a2]) (n := 4) (Nat.le_of_ble_eq_true rfl)
  rw [lg_entry_eq]
  generalize (lg_sl ([.ref x0, .int a1, .int a2]) ++ List.replicate (4 - (lg_sl ([.ref x0, .int a1, .int a2])).length) Slot.unset).toArray = ls at hl ⊢
  have hl : lv_has ls 4 [(0, .ref x0), (1, .int a1), (2, .int a2)] := hl
  have he := f_L_depends.eq_1 gb a1 a2
  replace hp := Eq.mp (p_L_depends.eq_1 ..) hp
  refine lv_aload_n hx hb dL_depends_0 rfl (lv_at hl 0 rfl) ?_
  refine lv_iload_n hx hb dL_depends_1 rfl (lv_at hl 1 rfl) ?_
  refine lv_iload_n hx hb dL_depends_2 rfl (lv_at hl 2 rfl) ?_
  have hq1 := hp.1
  replace hp := hp.2
  refine k_xcalli (S := Unit) (px := fun E => f_X4_dependsOn gb a1 a2 = .inl E ∧ (E = eIO)) (wc := (W_X4 cI x0 g0 g1 g2 g3 g4 l0 l1 l2 l3 l4 l5 t0 t1 t2 xr xt gn gu gb ga lc lk ln lt ll lr tw tn tt)) (wr := ([] : va_W)) (w1 := fun u => (W_X4 cI x0 g0 g1 g2 g3 g4 l0 l1 l2 l3 l4 l5 t0 t1 t2 xr xt gn gu gb ga lc lk ln lt ll lr tw tn tt)) (fun u => (W_X4 cI x0 g0 g1 g2 g3 g4 l0 l1 l2 l3 l4 l5 t0 t1 t2 xr xt gn gu gb ga lc lk ln lt ll lr tw tn tt)) hP hK hD hN hXB hS hA [0, 1, 2, 3, 4, 5, 6, 7, 8, 9, 10, 11, 12, 13, 14] [] rfl rfl (by decide) (by decide) (by decide) [0, 1, 2, 3, 4, 5, 6, 7, 8, 9, 10, 11, 12, 13, 14] (by decide) (fun _ => rfl) rfl (fun hg => vx_runV (As := [.int a1, .int a2]) (rest := []) ⟨hx, hb, hml, hown, hts⟩ (c_X4_dependsOn l D cI x0 g0 g1 g2 g3 g4 l0 l1 l2 l3 l4 l5 t0 t1 t2 xr xt gn gu gb ga lc lk ln lt ll lr tw tn tt _ a1 a2 hq1 hst) (cwV 2 hts gL_depends_X4_dependsOn rfl rfl rfl (by decide +kernel) ⟨Nat.le_of_ble_eq_true rfl, Nat.le_of_ble_eq_true rfl⟩) ⟨PX.blind, va_recv hK hP (ci := 4) (q0 := 0) rfl rfl, fun U hU hW => ⟨rfl, hg U hU hW⟩⟩ rfl rfl hl.1 rfl (lv_room (Nat.le_of_ble_eq_true rfl)) dL_depends_3 ⟨Nat.le_of_ble_eq_true rfl, Nat.le_of_ble_eq_true rfl⟩) (fun E ce q9 H locs hw hP hD hS hc9 hv9 hcl9 => ?_) (fun r1 u H locs hw hP hD hS => ?_)
  · rw [hw.1] at he
    try dsimp only at he
    have hE := hw.2
    subst hE
    refine vx_catch (own := RL) (name := eIO) hown [] ⟨0, 14, 15, 15⟩ [] htab (fun z hz => absurd hz List.not_mem_nil) (by decide) (by decide) (hts (.classLink RL 15 eIO) (by decide +kernel)) (hXB.cast (w := .castable eIO eIO) (by decide +kernel)) hc9 hv9 hcl9 ?_
    refine lv_astore_n (lv' := [(3, .ref q9), (0, .ref x0), (1, .int a1), (2, .int a2)]) hx hb dL_depends_15 rfl hl (by decide) rfl (fun ls hl => ?_)
    refine lv_bipush (v := (-101)) hx hb dL_depends_16 (by decide) ?_
    exact W.iret (v := (-101)) hx hb hr (fun t ht hW => ⟨⟨(-101), (), rfl, he, by rw [ht]; exact hP, va_K.moved hW.alike hK, hD⟩, hS.F ht⟩) hS.2.2 dL_depends_18
  · obtain ⟨hw, hb1⟩ := hw
    rw [hw] at he
    try dsimp only at he
    replace hp := hp r1 hw
    obtain ⟨j2, hJ2⟩ : ∃ z : Int32, z = (if r1 = 0 then (0 : Int32) else (1 : Int32)) := ⟨_, rfl⟩
    rw [← hJ2] at he
    try dsimp only at he
    have hpJ2 := hp.1
    replace hp := hp.2 _  hJ2.symm
    have kont2 : (j2 = 0 ∨ j2 = 1) → ∀ (H : Heap) (locs : List Loc), va_P D vwCl (W_X4 cI x0 g0 g1 g2 g3 g4 l0 l1 l2 l3 l4 l5 t0 t1 t2 xr xt gn gu gb ga lc lk ln lt ll lr tw tn tt) H → va_D A (W_X4 cI x0 g0 g1 g2 g3 g4 l0 l1 l2 l3 l4 l5 t0 t1 t2 xr xt gn gu gb ga lc lk ln lt ll lr tw tn tt) → va_S A s.heap H locs → ∀ ls : Array Slot, lv_has ls 4 [] → W p l e (headSpec wsL_depends rm_L_depends).room s m ([.ref x0, .int a1, .int a2] : List Value).toArray below meth c H locs 2 12 (MQ below (Q_L_depends D cI x0 g0 g1 g2 g3 g4 l0 l1 l2 l3 l4 l5 t0 t1 t2 xr xt gn gu gb ga lc lk ln lt ll lr tw tn tt a1 a2 A) ([.ref x0, .int a1, .int a2] : List Value).toArray s 2 12 A) (F0 m 14 ls [.int j2]) := by
      intro hb2 H locs hP hD hS ls hl
      exact W.iret (v := j2) hx hb hr (fun t ht hW => ⟨⟨j2, (), rfl, he, by rw [ht]; exact hP, va_K.moved hW.alike hK, hD⟩, hS.F ht⟩) hS.2.2 dL_depends_14
    replace he := hJ2
    replace hp := hpJ2
    refine lv_if_eq (tgt := 13) hx hb dL_depends_6 (by decide) (fun c3 => ?_) (fun c3 => ?_)
    · replace hp := hp.1 c3
      replace he := he.trans (if_pos c3)
      refine lv_iconst (v := 0) hx hb dL_depends_13 (by decide) ?_
      subst he
      exact kont2 (Or.inl rfl) _ _ hP hD hS _ (lv_sub hl [] rfl)
    · replace hp := hp.2 c3
      replace he := he.trans (if_neg c3)
      refine lv_iconst (v := 1) hx hb dL_depends_9 (by decide) ?_
      refine lv_goto (tgt := 14) hx hb dL_depends_10 (by decide) ?_
      subst he
      exact kont2 (Or.inr rfl) _ _ hP hD hS _ (lv_sub hl [] rfl)
abbrev rm_L_height : Room := { frames := 8, cells := 1, slots := 6, locals := 123 }
abbrev Q_L_height (D : va_G) (cI : ClassId) (x0 g0 g1 g2 g3 g4 l0 l1 l2 l3 l4 l5 t0 t1 t2 : Nat) (xr : Int32) (xt : Int32) (gn : AA) (gu : AA) (gb : AA) (ga : AA) (lc : Int32) (lk : AA) (ln : AA) (lt : AA) (ll : AA) (lr : AA) (tw : Int32) (tn : AA) (tt : AA) (a1 : Int32) (A : Nat → Prop) : Array Value → State → Outcome → State → Prop := va_Qi (S := Unit) (fun r u => f_L_height gn a1 = r) (fun u t => QW D [(cI, .int)] A (W_X4 cI x0 g0 g1 g2 g3 g4 l0 l1 l2 l3 l4 l5 t0 t1 t2 xr xt gn gu gb ga lc lk ln lt ll lr tw tn tt) t) A
set_option maxHeartbeats 4000000 in
set_option maxRecDepth 100000 in
theorem c_L_height (l : Launch)  (D : va_G) (cI : ClassId) (x0 g0 g1 g2 g3 g4 l0 l1 l2 l3 l4 l5 t0 t1 t2 : Nat) (xr : Int32) (xt : Int32) (gn : AA) (gu : AA) (gb : AA) (ga : AA) (lc : Int32) (lk : AA) (ln : AA) (lt : AA) (ll : AA) (lr : AA) (tw : Int32) (tn : AA) (tt : AA) (sz : Nat) (a1 : Int32) (hp : p_L_height gn a1) (hst : l.stackTraces = false) : Met l yL_height wsL_height rm_L_height (va_Pc [.ref x0, .int a1] (PX D [(cI, .int)] sz (W_X4 cI x0 g0 g1 g2 g3 g4 l0 l1 l2 l3 l4 l5 t0 t1 t2 xr xt gn gu gb ga lc lk ln lt ll lr tw tn tt))) (Q_L_height D cI x0 g0 g1 g2 g3 g4 l0 l1 l2 l3 l4 l5 t0 t1 t2 xr xt gn gu gb ga lc lk ln lt ll lr tw tn tt a1 (va_A (W_X4 cI x0 g0 g1 g2 g3 g4 l0 l1 l2 l3 l4 l5 t0 t1 t2 xr xt gn gu gb ga lc lk ln lt ll lr tw tn tt) sz)) 1 6 (va_A (W_X4 cI x0 g0 g1 g2 g3 g4 l0 l1 l2 l3 l4 l5 t0 t1 t2 xr xt gn gu gb ga lc lk ln lt ll lr tw tn tt) sz) := by
  refine va_MetW (cc := cL_height) (maxL := 3) (ret := (some .int)) (hh := [(0, 5, 6, 15)]) (by decide) rfl ?_
  intro p e s m args below meth c s₁ B hml hv
  obtain ⟨rfl, ⟨hsz, hP, hK, hD0, hN⟩, hXB⟩ := hv
  have hx := B.exec
  have hb := B.bytes
  have hr := B.returns
  have hts := atoms_spec (ws := wsL_height) B.pre
  have hown : s.vm.findClass RL = some m.cls := findClass_of_methodNamed B.named
  have hlocks := B.notSynchronized
  have htab := vx_table (x := yL_height) B (hts (.codeWith yL_height cL_height 3 (some .int) [(0, 5, 6, 15)]) (by decide +kernel))
  subst hsz
  have hD := hD0.self (sz := s.heap.size)
  generalize hAe : va_A (W_X4 cI x0 g0 g1 g2 g3 g4 l0 l1 l2 l3 l4 l5 t0 t1 t2 xr xt gn gu gb ga lc lk ln lt ll lr tw tn tt) s.heap.size = A at hD hXB ⊢
  have hA : ∀ q : Nat, s.heap.size ≤ q → A q := fun q h => by rw [← hAe]; exact Or.inr h
  have hS : va_S A s.heap s.heap [] := va_S.rf
  have hl := lv_entry ([.ref x0, .int a1]) (n := 3) (Nat.le_of_ble_eq_true rfl)
  rw [lg_entry_eq]
  generalize (lg_sl ([.ref x0, .int a1]) ++ List.replicate (3 - (lg_sl ([.ref x0, .int a1])).length) Slot.unset).toArray = ls at hl ⊢
  have hl : lv_has ls 3 [(0, .ref x0), (1, .int a1)] := hl
  have he := f_L_height.eq_1 gn a1
  replace hp := Eq.mp (p_L_height.eq_1 ..) hp
  refine lv_aload_n hx hb dL_height_0 rfl (lv_at hl 0 rfl) ?_
  refine lv_iload_n hx hb dL_height_1 rfl (lv_at hl 1 rfl) ?_
  have hq1 := hp.1
  replace hp := hp.2
  refine k_xcalli (S := Unit) (px := fun E => f_X4_height gn a1 = .inl E ∧ (E = eIO)) (wc := (W_X4 cI x0 g0 g1 g2 g3 g4 l0 l1 l2 l3 l4 l5 t0 t1 t2 xr xt gn gu gb ga lc lk ln lt ll lr tw tn tt)) (wr := ([] : va_W)) (w1 := fun u => (W_X4 cI x0 g0 g1 g2 g3 g4 l0 l1 l2 l3 l4 l5 t0 t1 t2 xr xt gn gu gb ga lc lk ln lt ll lr tw tn tt)) (fun u => (W_X4 cI x0 g0 g1 g2 g3 g4 l0 l1 l2 l3 l4 l5 t0 t1 t2 xr xt gn gu gb ga lc lk ln lt ll lr tw tn tt)) hP hK hD hN hXB hS hA [0, 1, 2, 3, 4, 5, 6, 7, 8, 9, 10, 11, 12, 13, 14] [] rfl rfl (by decide) (by decide) (by decide) [0, 1, 2, 3, 4, 5, 6, 7, 8, 9, 10, 11, 12, 13, 14] (by decide) (fun _ => rfl) rfl (fun hg => vx_runV (As := [.int a1]) (rest := []) ⟨hx, hb, hml, hown, hts⟩ (c_X4_height l D cI x0 g0 g1 g2 g3 g4 l0 l1 l2 l3 l4 l5 t0 t1 t2 xr xt gn gu gb ga lc lk ln lt ll lr tw tn tt _ a1 hq1 hst) (cwV 1 hts gL_height_X4_height rfl rfl rfl (by decide +kernel) ⟨Nat.le_of_ble_eq_true rfl, Nat.le_of_ble_eq_true rfl⟩) ⟨PX.blind, va_recv hK hP (ci := 4) (q0 := 0) rfl rfl, fun U hU hW => ⟨rfl, hg U hU hW⟩⟩ rfl rfl hl.1 rfl (lv_room (Nat.le_of_ble_eq_true rfl)) dL_height_2 ⟨Nat.le_of_ble_eq_true rfl, Nat.le_of_ble_eq_true rfl⟩) (fun E ce q9 H locs hw hP hD hS hc9 hv9 hcl9 => ?_) (fun r1 u H locs hw hP hD hS => ?_)
  · rw [hw.1] at he
    try dsimp only at he
    have hE := hw.2
    subst hE
    refine vx_catch (own := RL) (name := eIO) hown [] ⟨0, 5, 6, 15⟩ [] htab (fun z hz => absurd hz List.not_mem_nil) (by decide) (by decide) (hts (.classLink RL 15 eIO) (by decide +kernel)) (hXB.cast (w := .castable eIO eIO) (by decide +kernel)) hc9 hv9 hcl9 ?_
    refine lv_astore_n (lv' := [(2, .ref q9), (0, .ref x0), (1, .int a1)]) hx hb dL_height_6 rfl hl (by decide) rfl (fun ls hl => ?_)
    refine lv_bipush (v := (-101)) hx hb dL_height_7 (by decide) ?_
    exact W.iret (v := (-101)) hx hb hr (fun t ht hW => ⟨⟨(-101), (), rfl, he, by rw [ht]; exact hP, va_K.moved hW.alike hK, hD⟩, hS.F ht⟩) hS.2.2 dL_height_9
  · rw [hw] at he
    try dsimp only at he
    replace hp := hp r1 hw
    exact W.iret (v := r1) hx hb hr (fun t ht hW => ⟨⟨r1, (), rfl, he, by rw [ht]; exact hP, va_K.moved hW.alike hK, hD⟩, hS.F ht⟩) hS.2.2 dL_height_5
abbrev rm_L_tick : Room := { frames := 8, cells := 1, slots := 6, locals := 124 }
abbrev Q_L_tick (D : va_G) (cI : ClassId) (x0 g0 g1 g2 g3 g4 l0 l1 l2 l3 l4 l5 t0 t1 t2 : Nat) (xr : Int32) (xt : Int32) (gn : AA) (gu : AA) (gb : AA) (ga : AA) (lc : Int32) (lk : AA) (ln : AA) (lt : AA) (ll : AA) (lr : AA) (tw : Int32) (tn : AA) (tt : AA) (a1 : Int32) (A : Nat → Prop) : Array Value → State → Outcome → State → Prop := va_Qi (S := Int32) (fun r u => f_L_tick xt a1 = (r, u)) (fun u t => QW D [(cI, .int)] A (W_X4 cI x0 g0 g1 g2 g3 g4 l0 l1 l2 l3 l4 l5 t0 t1 t2 xr u gn gu gb ga lc lk ln lt ll lr tw tn tt) t) A
set_option maxHeartbeats 4000000 in
set_option maxRecDepth 100000 in
theorem c_L_tick (l : Launch)  (D : va_G) (cI : ClassId) (x0 g0 g1 g2 g3 g4 l0 l1 l2 l3 l4 l5 t0 t1 t2 : Nat) (xr : Int32) (xt : Int32) (gn : AA) (gu : AA) (gb : AA) (ga : AA) (lc : Int32) (lk : AA) (ln : AA) (lt : AA) (ll : AA) (lr : AA) (tw : Int32) (tn : AA) (tt : AA) (sz : Nat) (a1 : Int32) (hst : l.stackTraces = false) : Met l yL_tick wsL_tick rm_L_tick (va_Pc [.ref x0, .int a1] (PX D [(cI, .int)] sz (W_X4 cI x0 g0 g1 g2 g3 g4 l0 l1 l2 l3 l4 l5 t0 t1 t2 xr xt gn gu gb ga lc lk ln lt ll lr tw tn tt))) (Q_L_tick D cI x0 g0 g1 g2 g3 g4 l0 l1 l2 l3 l4 l5 t0 t1 t2 xr xt gn gu gb ga lc lk ln lt ll lr tw tn tt a1 (va_A (W_X4 cI x0 g0 g1 g2 g3 g4 l0 l1 l2 l3 l4 l5 t0 t1 t2 xr xt gn gu gb ga lc lk ln lt ll lr tw tn tt) sz)) 1 6 (va_A (W_X4 cI x0 g0 g1 g2 g3 g4 l0 l1 l2 l3 l4 l5 t0 t1 t2 xr xt gn gu gb ga lc lk ln lt ll lr tw tn tt) sz) := by
  refine va_MetW (cc := cL_tick) (maxL := 3) (ret := (some .int)) (hh := [(0, 5, 6, 17)]) (by decide) rfl ?_
  intro p e s m args below meth c s₁ B hml hv
  obtain ⟨rfl, ⟨hsz, hP, hK, hD0, hN⟩, hXB⟩ := hv
  have hx := B.exec
  have hb := B.bytes
  have hr := B.returns
  have hts := atoms_spec (ws := wsL_tick) B.pre
  have hown : s.vm.findClass RL = some m.cls := findClass_of_methodNamed B.named
  have hlocks := B.notSynchronized
  have htab := vx_table (x := yL_tick) B (hts (.codeWith yL_tick cL_tick 3 (some .int) [(0, 5, 6, 17)]) (by decide +kernel))
  subst hsz
  have hD := hD0.self (sz := s.heap.size)
  generalize hAe : va_A (W_X4 cI x0 g0 g1 g2 g3 g4 l0 l1 l2 l3 l4 l5 t0 t1 t2 xr xt gn gu gb ga lc lk ln lt ll lr tw tn tt) s.heap.size = A at hD hXB ⊢
  have hA : ∀ q : Nat, s.heap.size ≤ q → A q := fun q h => by rw [← hAe]; exact Or.inr h
  have hS : va_S A s.heap s.heap [] := va_S.rf
  have hl := lv_entry ([.ref x0, .int a1]) (n := 3) (Nat.le_of_ble_eq_true rfl)
  rw [lg_entry_eq]
  generalize (lg_sl ([.ref x0, .int a1]) ++ List.replicate (3 - (lg_sl ([.ref x0, .int a1])).length) Slot.unset).toArray = ls at hl ⊢
  have hl : lv_has ls 3 [(0, .ref x0), (1, .int a1)] := hl
  have he := f_L_tick.eq_1 xt a1
  refine lv_aload_n hx hb dL_tick_0 rfl (lv_at hl 0 rfl) ?_
  refine lv_iload_n hx hb dL_tick_1 rfl (lv_at hl 1 rfl) ?_
  refine k_xcalli (S := Int32) (px := fun E => f_X4_tick xt a1 = .inl E ∧ (E = eIA)) (wc := (W_X4 cI x0 g0 g1 g2 g3 g4 l0 l1 l2 l3 l4 l5 t0 t1 t2 xr xt gn gu gb ga lc lk ln lt ll lr tw tn tt)) (wr := ([] : va_W)) (w1 := fun u => (W_X4 cI x0 g0 g1 g2 g3 g4 l0 l1 l2 l3 l4 l5 t0 t1 t2 xr u gn gu gb ga lc lk ln lt ll lr tw tn tt)) (fun u => (W_X4 cI x0 g0 g1 g2 g3 g4 l0 l1 l2 l3 l4 l5 t0 t1 t2 xr u gn gu gb ga lc lk ln lt ll lr tw tn tt)) hP hK hD hN hXB hS hA [0, 1, 2, 3, 4, 5, 6, 7, 8, 9, 10, 11, 12, 13, 14] [] rfl rfl (by decide) (by decide) (by decide) [0, 1, 2, 3, 4, 5, 6, 7, 8, 9, 10, 11, 12, 13, 14] (by decide) (fun _ => rfl) rfl (fun hg => vx_runV (As := [.int a1]) (rest := []) ⟨hx, hb, hml, hown, hts⟩ (c_X4_tick l D cI x0 g0 g1 g2 g3 g4 l0 l1 l2 l3 l4 l5 t0 t1 t2 xr xt gn gu gb ga lc lk ln lt ll lr tw tn tt _ a1 hst) (cwV 1 hts gL_tick_X4_tick rfl rfl rfl (by decide +kernel) ⟨Nat.le_of_ble_eq_true rfl, Nat.le_of_ble_eq_true rfl⟩) ⟨PX.blind, va_recv hK hP (ci := 4) (q0 := 0) rfl rfl, fun U hU hW => ⟨rfl, hg U hU hW⟩⟩ rfl rfl hl.1 rfl (lv_room (Nat.le_of_ble_eq_true rfl)) dL_tick_2 ⟨Nat.le_of_ble_eq_true rfl, Nat.le_of_ble_eq_true rfl⟩) (fun E ce q9 H locs hw hP hD hS hc9 hv9 hcl9 => ?_) (fun r1 u H locs hw hP hD hS => ?_)
  · rw [hw.1] at he
    try dsimp only at he
    have hE := hw.2
    subst hE
    refine vx_catch (own := RL) (name := eIA) hown [] ⟨0, 5, 6, 17⟩ [] htab (fun z hz => absurd hz List.not_mem_nil) (by decide) (by decide) (hts (.classLink RL 17 eIA) (by decide +kernel)) (hXB.cast (w := .castable eIA eIA) (by decide +kernel)) hc9 hv9 hcl9 ?_
    refine lv_astore_n (lv' := [(2, .ref q9), (0, .ref x0), (1, .int a1)]) hx hb dL_tick_6 rfl hl (by decide) rfl (fun ls hl => ?_)
    refine lv_bipush (v := (-102)) hx hb dL_tick_7 (by decide) ?_
    exact W.iret (v := (-102)) hx hb hr (fun t ht hW => ⟨⟨(-102), xt, rfl, he, by rw [ht]; exact hP, va_K.moved hW.alike hK, hD⟩, hS.F ht⟩) hS.2.2 dL_tick_9
  · obtain ⟨u1_0, rfl⟩ : ∃ z, z = u := ⟨_, rfl⟩
    rw [hw] at he
    try dsimp only at he
    have hP : va_P D vwCl (W_X4 cI x0 g0 g1 g2 g3 g4 l0 l1 l2 l3 l4 l5 t0 t1 t2 xr u1_0 gn gu gb ga lc lk ln lt ll lr tw tn tt) H := hP
    have hD : va_D A (W_X4 cI x0 g0 g1 g2 g3 g4 l0 l1 l2 l3 l4 l5 t0 t1 t2 xr u1_0 gn gu gb ga lc lk ln lt ll lr tw tn tt) := hD
    exact W.iret (v := r1) hx hb hr (fun t ht hW => ⟨⟨r1, u1_0, rfl, he, by rw [ht]; exact hP, va_K.moved hW.alike hK, hD⟩, hS.F ht⟩) hS.2.2 dL_tick_5
abbrev rm_L_raise : Room := { frames := 8, cells := 2, slots := 12, locals := 125 }
abbrev Q_L_raise (D : va_G) (cI : ClassId) (x0 g0 g1 g2 g3 g4 l0 l1 l2 l3 l4 l5 t0 t1 t2 : Nat) (xr : Int32) (xt : Int32) (gn : AA) (gu : AA) (gb : AA) (ga : AA) (lc : Int32) (lk : AA) (ln : AA) (lt : AA) (ll : AA) (lr : AA) (tw : Int32) (tn : AA) (tt : AA) (a1 : Int32) (A : Nat → Prop) : Array Value → State → Outcome → State → Prop := va_Qi (S := Int32 × Int32 × AA × AA × AA × AA × AA × Int32 × AA × AA) (fun r u => f_L_raise xr xt gb ga lc lk ln lt ll lr tw tn tt a1 = (r, u)) (fun u t => QW D [(cI, .int)] A (W_X4 cI x0 g0 g1 g2 g3 g4 l0 l1 l2 l3 l4 l5 t0 t1 t2 u.1 xt gn gu gb ga u.2.1 u.2.2.1 u.2.2.2.1 u.2.2.2.2.1 u.2.2.2.2.2.1 u.2.2.2.2.2.2.1 u.2.2.2.2.2.2.2.1 u.2.2.2.2.2.2.2.2.1 u.2.2.2.2.2.2.2.2.2) t) A
set_option maxHeartbeats 4000000 in
set_option maxRecDepth 100000 in
theorem c_L_raise (l : Launch)  (D : va_G) (cI : ClassId) (x0 g0 g1 g2 g3 g4 l0 l1 l2 l3 l4 l5 t0 t1 t2 : Nat) (xr : Int32) (xt : Int32) (gn : AA) (gu : AA) (gb : AA) (ga : AA) (lc : Int32) (lk : AA) (ln : AA) (lt : AA) (ll : AA) (lr : AA) (tw : Int32) (tn : AA) (tt : AA) (sz : Nat) (a1 : Int32) (hp : p_L_raise xr xt gb ga lc lk ln lt ll lr tw tn tt a1) (hst : l.stackTraces = false) : Met l yL_raise wsL_raise rm_L_raise (va_Pc [.ref x0, .int a1] (PX D [(cI, .int)] sz (W_X4 cI x0 g0 g1 g2 g3 g4 l0 l1 l2 l3 l4 l5 t0 t1 t2 xr xt gn gu gb ga lc lk ln lt ll lr tw tn tt))) (Q_L_raise D cI x0 g0 g1 g2 g3 g4 l0 l1 l2 l3 l4 l5 t0 t1 t2 xr xt gn gu gb ga lc lk ln lt ll lr tw tn tt a1 (va_A (W_X4 cI x0 g0 g1 g2 g3 g4 l0 l1 l2 l3 l4 l5 t0 t1 t2 xr xt gn gu gb ga lc lk ln lt ll lr tw tn tt) sz)) 2 12 (va_A (W_X4 cI x0 g0 g1 g2 g3 g4 l0 l1 l2 l3 l4 l5 t0 t1 t2 xr xt gn gu gb ga lc lk ln lt ll lr tw tn tt) sz) := by
  refine va_MetW (cc := cL_raise) (maxL := 3) (ret := (some .int)) (hh := [(0, 5, 6, 15), (0, 5, 10, 38)]) (by decide) rfl ?_
  intro p e s m args below meth c s₁ B hml hv
  obtain ⟨rfl, ⟨hsz, hP, hK, hD0, hN⟩, hXB⟩ := hv
  have hx := B.exec
  have hb := B.bytes
  have hr := B.returns
  have hts := atoms_spec (ws := wsL_raise) B.pre
  have hown : s.vm.findClass RL = some m.cls := findClass_of_methodNamed B.named
  have hlocks := B.notSynchronized
  have htab := vx_table (x := yL_raise) B (hts (.codeWith yL_raise cL_raise 3 (some .int) [(0, 5, 6, 15), (0, 5, 10, 38)]) (by decide +kernel))
  subst hsz
  have hD := hD0.self (sz := s.heap.size)
  generalize hAe : va_A (W_X4 cI x0 g0 g1 g2 g3 g4 l0 l1 l2 l3 l4 l5 t0 t1 t2 xr xt gn gu gb ga lc lk ln lt ll lr tw tn tt) s.heap.size = A at hD hXB ⊢
  have hA : ∀ q : Nat, s.heap.size ≤ q → A q := fun q h => by rw [← hAe]; exact Or.inr h
  have hS : va_S A s.heap s.heap [] := va_S.rf
  have hl := lv_entry ([.ref x0, .int a1]) (n := 3) (Nat.le_of_ble_eq_true rfl)
  rw [lg_entry_eq]
  generalize (lg_sl ([.ref x0, .int a1]) ++ List.replicate (3 - (lg_sl ([.ref x0, .int a1])).length) Slot.unset).toArray = ls at hl ⊢
  have hl : lv_has ls 3 [(0, .ref x0), (1, .int a1)] := hl
  have he := f_L_raise.eq_1 xr xt gb ga lc lk ln lt ll lr tw tn tt a1
  replace hp := Eq.mp (p_L_raise.eq_1 ..) hp
  refine lv_aload_n hx hb dL_raise_0 rfl (lv_at hl 0 rfl) ?_
  refine lv_iload_n hx hb dL_raise_1 rfl (lv_at hl 1 rfl) ?_
  have hq1 := hp.1
  replace hp := hp.2
  refine k_xcalli (S := Int32 × Int32 × AA × AA × AA × AA × AA × Int32 × AA × AA) (px := fun E => f_X4_raise xr xt gb ga lc lk ln lt ll lr tw tn tt a1 = .inl E ∧ (E = eIO ∨ E = eIS)) (wc := (W_X4 cI x0 g0 g1 g2 g3 g4 l0 l1 l2 l3 l4 l5 t0 t1 t2 xr xt gn gu gb ga lc lk ln lt ll lr tw tn tt)) (wr := ([] : va_W)) (w1 := fun u => (W_X4 cI x0 g0 g1 g2 g3 g4 l0 l1 l2 l3 l4 l5 t0 t1 t2 u.1 xt gn gu gb ga u.2.1 u.2.2.1 u.2.2.2.1 u.2.2.2.2.1 u.2.2.2.2.2.1 u.2.2.2.2.2.2.1 u.2.2.2.2.2.2.2.1 u.2.2.2.2.2.2.2.2.1 u.2.2.2.2.2.2.2.2.2)) (fun u => (W_X4 cI x0 g0 g1 g2 g3 g4 l0 l1 l2 l3 l4 l5 t0 t1 t2 u.1 xt gn gu gb ga u.2.1 u.2.2.1 u.2.2.2.1 u.2.2.2.2.1 u.2.2.2.2.2.1 u.2.2.2.2.2.2.1 u.2.2.2.2.2.2.2.1 u.2.2.2.2.2.2.2.2.1 u.2.2.2.2.2.2.2.2.2)) hP hK hD hN hXB hS hA [0, 1, 2, 3, 4, 5, 6, 7, 8, 9, 10, 11, 12, 13, 14] [] rfl rfl (by decide) (by decide) (by decide) [0, 1, 2, 3, 4, 5, 6, 7, 8, 9, 10, 11, 12, 13, 14] (by decide) (fun _ => rfl) rfl (fun hg => vx_runV (As := [.int a1]) (rest := []) ⟨hx, hb, hml, hown, hts⟩ (c_X4_raise l D cI x0 g0 g1 g2 g3 g4 l0 l1 l2 l3 l4 l5 t0 t1 t2 xr xt gn gu gb ga lc lk ln lt ll lr tw tn tt _ a1 hq1 hst) (cwV 1 hts gL_raise_X4_raise rfl rfl rfl (by decide +kernel) ⟨Nat.le_of_ble_eq_true rfl, Nat.le_of_ble_eq_true rfl⟩) ⟨PX.blind, va_recv hK hP (ci := 4) (q0 := 0) rfl rfl, fun U hU hW => ⟨rfl, hg U hU hW⟩⟩ rfl rfl hl.1 rfl (lv_room (Nat.le_of_ble_eq_true rfl)) dL_raise_2 ⟨Nat.le_of_ble_eq_true rfl, Nat.le_of_ble_eq_true rfl⟩) (fun E ce q9 H locs hw hP hD hS hc9 hv9 hcl9 => ?_) (fun r1 u H locs hw hP hD hS => ?_)
  · rw [hw.1] at he
    try dsimp only at he
    rcases hw.2 with hE | hE
    · subst hE
      replace he := he.trans (if_pos rfl)
      refine vx_catch (own := RL) (name := eIO) hown [] ⟨0, 5, 6, 15⟩ [⟨0, 5, 10, 38⟩] htab (fun z hz => absurd hz List.not_mem_nil) (by decide) (by decide) (hts (.classLink RL 15 eIO) (by decide +kernel)) (hXB.cast (w := .castable eIO eIO) (by decide +kernel)) hc9 hv9 hcl9 ?_
      refine lv_astore_n (lv' := [(2, .ref q9), (0, .ref x0), (1, .int a1)]) hx hb dL_raise_6 rfl hl (by decide) rfl (fun ls hl => ?_)
      refine lv_bipush (v := (-101)) hx hb dL_raise_7 (by decide) ?_
      exact W.iret (v := (-101)) hx hb hr (fun t ht hW => ⟨⟨(-101), (xr, lc, lk, ln, lt, ll, lr, tw, tn, tt), rfl, he, by rw [ht]; exact hP, va_K.moved hW.alike hK, hD⟩, hS.F ht⟩) hS.2.2 dL_raise_9
    · subst hE
      replace he := he.trans (if_neg (by decide +kernel))
      refine vx_catch (own := RL) (name := eIS) hown [⟨0, 5, 6, 15⟩] ⟨0, 5, 10, 38⟩ [] htab (fun z hz => by rcases List.mem_singleton.mp hz with rfl; exact Or.inr ⟨by decide, eIO, hts (.classLink RL 15 eIO) (by decide +kernel), hXB.2.2.2.2.1⟩) (by decide) (by decide) (hts (.classLink RL 38 eIS) (by decide +kernel)) (hXB.cast (w := .castable eIS eIS) (by decide +kernel)) hc9 hv9 hcl9 ?_
      refine lv_astore_n (lv' := [(2, .ref q9), (0, .ref x0), (1, .int a1)]) hx hb dL_raise_10 rfl hl (by decide) rfl (fun ls hl => ?_)
      refine lv_bipush (v := (-103)) hx hb dL_raise_11 (by decide) ?_
      exact W.iret (v := (-103)) hx hb hr (fun t ht hW => ⟨⟨(-103), (xr, lc, lk, ln, lt, ll, lr, tw, tn, tt), rfl, he, by rw [ht]; exact hP, va_K.moved hW.alike hK, hD⟩, hS.F ht⟩) hS.2.2 dL_raise_13
  · obtain ⟨u1_0, u1_1, u1_2, u1_3, u1_4, u1_5, u1_6, u1_7, u1_8, u1_9⟩ := u
    rw [hw] at he
    try dsimp only at he
    replace hp := hp r1 u1_0 u1_1 u1_2 u1_3 u1_4 u1_5 u1_6 u1_7 u1_8 u1_9 hw
    have hP : va_P D vwCl (W_X4 cI x0 g0 g1 g2 g3 g4 l0 l1 l2 l3 l4 l5 t0 t1 t2 u1_0 xt gn gu gb ga u1_1 u1_2 u1_3 u1_4 u1_5 u1_6 u1_7 u1_8 u1_9) H := hP
    have hD : va_D A (W_X4 cI x0 g0 g1 g2 g3 g4 l0 l1 l2 l3 l4 l5 t0 t1 t2 u1_0 xt gn gu gb ga u1_1 u1_2 u1_3 u1_4 u1_5 u1_6 u1_7 u1_8 u1_9) := hD
    exact W.iret (v := r1) hx hb hr (fun t ht hW => ⟨⟨r1, (u1_0, u1_1, u1_2, u1_3, u1_4, u1_5, u1_6, u1_7, u1_8, u1_9), rfl, he, by rw [ht]; exact hP, va_K.moved hW.alike hK, hD⟩, hS.F ht⟩) hS.2.2 dL_raise_5
abbrev rm_L_clear : Room := { frames := 8, cells := 2, slots := 12, locals := 124 }
abbrev Q_L_clear (D : va_G) (cI : ClassId) (x0 g0 g1 g2 g3 g4 l0 l1 l2 l3 l4 l5 t0 t1 t2 : Nat) (xr : Int32) (xt : Int32) (gn : AA) (gu : AA) (gb : AA) (ga : AA) (lc : Int32) (lk : AA) (ln : AA) (lt : AA) (ll : AA) (lr : AA) (tw : Int32) (tn : AA) (tt : AA) (a1 : Int32) (A : Nat → Prop) : Array Value → State → Outcome → State → Prop := va_Qi (S := Int32 × Int32 × AA × AA × AA × AA × AA) (fun r u => f_L_clear xr xt lc lk ln lt ll lr tw tn a1 = (r, u)) (fun u t => QW D [(cI, .int)] A (W_X4 cI x0 g0 g1 g2 g3 g4 l0 l1 l2 l3 l4 l5 t0 t1 t2 u.1 xt gn gu gb ga u.2.1 u.2.2.1 u.2.2.2.1 u.2.2.2.2.1 u.2.2.2.2.2.1 lr tw u.2.2.2.2.2.2 tt) t) A
set_option maxHeartbeats 4000000 in
set_option maxRecDepth 100000 in
theorem c_L_clear (l : Launch)  (D : va_G) (cI : ClassId) (x0 g0 g1 g2 g3 g4 l0 l1 l2 l3 l4 l5 t0 t1 t2 : Nat) (xr : Int32) (xt : Int32) (gn : AA) (gu : AA) (gb : AA) (ga : AA) (lc : Int32) (lk : AA) (ln : AA) (lt : AA) (ll : AA) (lr : AA) (tw : Int32) (tn : AA) (tt : AA) (sz : Nat) (a1 : Int32) (hp : p_L_clear xr xt lc lk ln lt ll lr tw tn a1) (hst : l.stackTraces = false) : Met l yL_clear wsL_clear rm_L_clear (va_Pc [.ref x0, .int a1] (PX D [(cI, .int)] sz (W_X4 cI x0 g0 g1 g2 g3 g4 l0 l1 l2 l3 l4 l5 t0 t1 t2 xr xt gn gu gb ga lc lk ln lt ll lr tw tn tt))) (Q_L_clear D cI x0 g0 g1 g2 g3 g4 l0 l1 l2 l3 l4 l5 t0 t1 t2 xr xt gn gu gb ga lc lk ln lt ll lr tw tn tt a1 (va_A (W_X4 cI x0 g0 g1 g2 g3 g4 l0 l1 l2 l3 l4 l5 t0 t1 t2 xr xt gn gu gb ga lc lk ln lt ll lr tw tn tt) sz)) 2 12 (va_A (W_X4 cI x0 g0 g1 g2 g3 g4 l0 l1 l2 l3 l4 l5 t0 t1 t2 xr xt gn gu gb ga lc lk ln lt ll lr tw tn tt) sz) := by
  refine va_MetW (cc := cL_clear) (maxL := 3) (ret := (some .int)) (hh := [(0, 5, 6, 15), (0, 5, 10, 38)]) (by decide) rfl ?_
  intro p e s m args below meth c s₁ B hml hv
  obtain ⟨rfl, ⟨hsz, hP, hK, hD0, hN⟩, hXB⟩ := hv
  have hx := B.exec
  have hb := B.bytes
  have hr := B.returns
  have hts := atoms_spec (ws := wsL_clear) B.pre
  have hown : s.vm.findClass RL = some m.cls := findClass_of_methodNamed B.named
  have hlocks := B.notSynchronized
  have htab := vx_table (x := yL_clear) B (hts (.codeWith yL_clear cL_clear 3 (some .int) [(0, 5, 6, 15), (0, 5, 10, 38)]) (by decide +kernel))
  subst hsz
  have hD := hD0.self (sz := s.heap.size)
  generalize hAe : va_A (W_X4 cI x0 g0 g1 g2 g3 g4 l0 l1 l2 l3 l4 l5 t0 t1 t2 xr xt gn gu gb ga lc lk ln lt ll lr tw tn tt) s.heap.size = A at hD hXB ⊢
  have hA : ∀ q : Nat, s.heap.size ≤ q → A q := fun q h => by rw [← hAe]; exact Or.inr h
  have hS : va_S A s.heap s.heap [] := va_S.rf
  have hl := lv_entry ([.ref x0, .int a1]) (n := 3) (Nat.le_of_ble_eq_true rfl)
  rw [lg_entry_eq]
  generalize (lg_sl ([.ref x0, .int a1]) ++ List.replicate (3 - (lg_sl ([.ref x0, .int a1])).length) Slot.unset).toArray = ls at hl ⊢
  have hl : lv_has ls 3 [(0, .ref x0), (1, .int a1)] := hl
  have he := f_L_clear.eq_1 xr xt lc lk ln lt ll lr tw tn a1
  replace hp := Eq.mp (p_L_clear.eq_1 ..) hp
  refine lv_aload_n hx hb dL_clear_0 rfl (lv_at hl 0 rfl) ?_
  refine lv_iload_n hx hb dL_clear_1 rfl (lv_at hl 1 rfl) ?_
  have hq1 := hp.1
  replace hp := hp.2
  refine k_xcalli (S := Int32 × Int32 × AA × AA × AA × AA × AA) (px := fun E => f_X4_clear xr xt lc lk ln lt ll lr tw tn a1 = .inl E ∧ (E = eIO ∨ E = eIS)) (wc := (W_X4 cI x0 g0 g1 g2 g3 g4 l0 l1 l2 l3 l4 l5 t0 t1 t2 xr xt gn gu gb ga lc lk ln lt ll lr tw tn tt)) (wr := ([] : va_W)) (w1 := fun u => (W_X4 cI x0 g0 g1 g2 g3 g4 l0 l1 l2 l3 l4 l5 t0 t1 t2 u.1 xt gn gu gb ga u.2.1 u.2.2.1 u.2.2.2.1 u.2.2.2.2.1 u.2.2.2.2.2.1 lr tw u.2.2.2.2.2.2 tt)) (fun u => (W_X4 cI x0 g0 g1 g2 g3 g4 l0 l1 l2 l3 l4 l5 t0 t1 t2 u.1 xt gn gu gb ga u.2.1 u.2.2.1 u.2.2.2.1 u.2.2.2.2.1 u.2.2.2.2.2.1 lr tw u.2.2.2.2.2.2 tt)) hP hK hD hN hXB hS hA [0, 1, 2, 3, 4, 5, 6, 7, 8, 9, 10, 11, 12, 13, 14] [] rfl rfl (by decide) (by decide) (by decide) [0, 1, 2, 3, 4, 5, 6, 7, 8, 9, 10, 11, 12, 13, 14] (by decide) (fun _ => rfl) rfl (fun hg => vx_runV (As := [.int a1]) (rest := []) ⟨hx, hb, hml, hown, hts⟩ (c_X4_clear l D cI x0 g0 g1 g2 g3 g4 l0 l1 l2 l3 l4 l5 t0 t1 t2 xr xt gn gu gb ga lc lk ln lt ll lr tw tn tt _ a1 hq1 hst) (cwV 1 hts gL_clear_X4_clear rfl rfl rfl (by decide +kernel) ⟨Nat.le_of_ble_eq_true rfl, Nat.le_of_ble_eq_true rfl⟩) ⟨PX.blind, va_recv hK hP (ci := 4) (q0 := 0) rfl rfl, fun U hU hW => ⟨rfl, hg U hU hW⟩⟩ rfl rfl hl.1 rfl (lv_room (Nat.le_of_ble_eq_true rfl)) dL_clear_2 ⟨Nat.le_of_ble_eq_true rfl, Nat.le_of_ble_eq_true rfl⟩) (fun E ce q9 H locs hw hP hD hS hc9 hv9 hcl9 => ?_) (fun r1 u H locs hw hP hD hS => ?_)
  · rw [hw.1] at he
    try dsimp only at he
    rcases hw.2 with hE | hE
    · subst hE
      replace he := he.trans (if_pos rfl)
      refine vx_catch (own := RL) (name := eIO) hown [] ⟨0, 5, 6, 15⟩ [⟨0, 5, 10, 38⟩] htab (fun z hz => absurd hz List.not_mem_nil) (by decide) (by decide) (hts (.classLink RL 15 eIO) (by decide +kernel)) (hXB.cast (w := .castable eIO eIO) (by decide +kernel)) hc9 hv9 hcl9 ?_
      refine lv_astore_n (lv' := [(2, .ref q9), (0, .ref x0), (1, .int a1)]) hx hb dL_clear_6 rfl hl (by decide) rfl (fun ls hl => ?_)
      refine lv_bipush (v := (-101)) hx hb dL_clear_7 (by decide) ?_
      exact W.iret (v := (-101)) hx hb hr (fun t ht hW => ⟨⟨(-101), (xr, lc, lk, ln, lt, ll, tn), rfl, he, by rw [ht]; exact hP, va_K.moved hW.alike hK, hD⟩, hS.F ht⟩) hS.2.2 dL_clear_9
    · subst hE
      replace he := he.trans (if_neg (by decide +kernel))
      refine vx_catch (own := RL) (name := eIS) hown [⟨0, 5, 6, 15⟩] ⟨0, 5, 10, 38⟩ [] htab (fun z hz => by rcases List.mem_singleton.mp hz with rfl; exact Or.inr ⟨by decide, eIO, hts (.classLink RL 15 eIO) (by decide +kernel), hXB.2.2.2.2.1⟩) (by decide) (by decide) (hts (.classLink RL 38 eIS) (by decide +kernel)) (hXB.cast (w := .castable eIS eIS) (by decide +kernel)) hc9 hv9 hcl9 ?_
      refine lv_astore_n (lv' := [(2, .ref q9), (0, .ref x0), (1, .int a1)]) hx hb dL_clear_10 rfl hl (by decide) rfl (fun ls hl => ?_)
      refine lv_bipush (v := (-103)) hx hb dL_clear_11 (by decide) ?_
      exact W.iret (v := (-103)) hx hb hr (fun t ht hW => ⟨⟨(-103), (xr, lc, lk, ln, lt, ll, tn), rfl, he, by rw [ht]; exact hP, va_K.moved hW.alike hK, hD⟩, hS.F ht⟩) hS.2.2 dL_clear_13
  · obtain ⟨u1_0, u1_1, u1_2, u1_3, u1_4, u1_5, u1_6⟩ := u
    rw [hw] at he
    try dsimp only at he
    replace hp := hp r1 u1_0 u1_1 u1_2 u1_3 u1_4 u1_5 u1_6 hw
    have hP : va_P D vwCl (W_X4 cI x0 g0 g1 g2 g3 g4 l0 l1 l2 l3 l4 l5 t0 t1 t2 u1_0 xt gn gu gb ga u1_1 u1_2 u1_3 u1_4 u1_5 lr tw u1_6 tt) H := hP
    have hD : va_D A (W_X4 cI x0 g0 g1 g2 g3 g4 l0 l1 l2 l3 l4 l5 t0 t1 t2 u1_0 xt gn gu gb ga u1_1 u1_2 u1_3 u1_4 u1_5 lr tw u1_6 tt) := hD
    exact W.iret (v := r1) hx hb hr (fun t ht hW => ⟨⟨r1, (u1_0, u1_1, u1_2, u1_3, u1_4, u1_5, u1_6), rfl, he, by rw [ht]; exact hP, va_K.moved hW.alike hK, hD⟩, hS.F ht⟩) hS.2.2 dL_clear_5
abbrev rm_L_ticket : Room := { frames := 8, cells := 1, slots := 6, locals := 123 }
abbrev Q_L_ticket (D : va_G) (cI : ClassId) (x0 g0 g1 g2 g3 g4 l0 l1 l2 l3 l4 l5 t0 t1 t2 : Nat) (xr : Int32) (xt : Int32) (gn : AA) (gu : AA) (gb : AA) (ga : AA) (lc : Int32) (lk : AA) (ln : AA) (lt : AA) (ll : AA) (lr : AA) (tw : Int32) (tn : AA) (tt : AA) (a1 : Int32) (A : Nat → Prop) : Array Value → State → Outcome → State → Prop := va_Qi (S := Unit) (fun r u => f_L_ticket tn a1 = r) (fun u t => QW D [(cI, .int)] A (W_X4 cI x0 g0 g1 g2 g3 g4 l0 l1 l2 l3 l4 l5 t0 t1 t2 xr xt gn gu gb ga lc lk ln lt ll lr tw tn tt) t) A
set_option maxHeartbeats 4000000 in
set_option maxRecDepth 100000 in
theorem c_L_ticket (l : Launch)  (D : va_G) (cI : ClassId) (x0 g0 g1 g2 g3 g4 l0 l1 l2 l3 l4 l5 t0 t1 t2 : Nat) (xr : Int32) (xt : Int32) (gn : AA) (gu : AA) (gb : AA) (ga : AA) (lc : Int32) (lk : AA) (ln : AA) (lt : AA) (ll : AA) (lr : AA) (tw : Int32) (tn : AA) (tt : AA) (sz : Nat) (a1 : Int32) (hp : p_L_ticket tn a1) (hst : l.stackTraces = false) : Met l yL_ticket wsL_ticket rm_L_ticket (va_Pc [.ref x0, .int a1] (PX D [(cI, .int)] sz (W_X4 cI x0 g0 g1 g2 g3 g4 l0 l1 l2 l3 l4 l5 t0 t1 t2 xr xt gn gu gb ga lc lk ln lt ll lr tw tn tt))) (Q_L_ticket D cI x0 g0 g1 g2 g3 g4 l0 l1 l2 l3 l4 l5 t0 t1 t2 xr xt gn gu gb ga lc lk ln lt ll lr tw tn tt a1 (va_A (W_X4 cI x0 g0 g1 g2 g3 g4 l0 l1 l2 l3 l4 l5 t0 t1 t2 xr xt gn gu gb ga lc lk ln lt ll lr tw tn tt) sz)) 1 6 (va_A (W_X4 cI x0 g0 g1 g2 g3 g4 l0 l1 l2 l3 l4 l5 t0 t1 t2 xr xt gn gu gb ga lc lk ln lt ll lr tw tn tt) sz) := by
  refine va_MetW (cc := cL_ticket) (maxL := 3) (ret := (some .int)) (hh := [(0, 5, 6, 15)]) (by decide) rfl ?_
  intro p e s m args below meth c s₁ B hml hv
  obtain ⟨rfl, ⟨hsz, hP, hK, hD0, hN⟩, hXB⟩ := hv
  have hx := B.exec
  have hb := B.bytes
  have hr := B.returns
  have hts := atoms_spec (ws := wsL_ticket) B.pre
  have hown : s.vm.findClass RL = some m.cls := findClass_of_methodNamed B.named
  have hlocks := B.notSynchronized
  have htab := vx_table (x := yL_ticket) B (hts (.codeWith yL_ticket cL_ticket 3 (some .int) [(0, 5, 6, 15)]) (by decide +kernel))
  subst hsz
  have hD := hD0.self (sz := s.heap.size)
  generalize hAe : va_A (W_X4 cI x0 g0 g1 g2 g3 g4 l0 l1 l2 l3 l4 l5 t0 t1 t2 xr xt gn gu gb ga lc lk ln lt ll lr tw tn tt) s.heap.size = A at hD hXB ⊢
  have hA : ∀ q : Nat, s.heap.size ≤ q → A q := fun q h => by rw [← hAe]; exact Or.inr h
  have hS : va_S A s.heap s.heap [] := va_S.rf
  have hl := lv_entry ([.ref x0, .int a1]) (n := 3) (Nat.le_of_ble_eq_true rfl)
  rw [lg_entry_eq]
  generalize (lg_sl ([.ref x0, .int a1]) ++ List.replicate (3 - (lg_sl ([.ref x0, .int a1])).length) Slot.unset).toArray = ls at hl ⊢
  have hl : lv_has ls 3 [(0, .ref x0), (1, .int a1)] := hl
  have he := f_L_ticket.eq_1 tn a1
  replace hp := Eq.mp (p_L_ticket.eq_1 ..) hp
  refine lv_aload_n hx hb dL_ticket_0 rfl (lv_at hl 0 rfl) ?_
  refine lv_iload_n hx hb dL_ticket_1 rfl (lv_at hl 1 rfl) ?_
  have hq1 := hp.1
  replace hp := hp.2
  refine k_xcalli (S := Unit) (px := fun E => f_X4_ticketOf tn a1 = .inl E ∧ (E = eIO)) (wc := (W_X4 cI x0 g0 g1 g2 g3 g4 l0 l1 l2 l3 l4 l5 t0 t1 t2 xr xt gn gu gb ga lc lk ln lt ll lr tw tn tt)) (wr := ([] : va_W)) (w1 := fun u => (W_X4 cI x0 g0 g1 g2 g3 g4 l0 l1 l2 l3 l4 l5 t0 t1 t2 xr xt gn gu gb ga lc lk ln lt ll lr tw tn tt)) (fun u => (W_X4 cI x0 g0 g1 g2 g3 g4 l0 l1 l2 l3 l4 l5 t0 t1 t2 xr xt gn gu gb ga lc lk ln lt ll lr tw tn tt)) hP hK hD hN hXB hS hA [0, 1, 2, 3, 4, 5, 6, 7, 8, 9, 10, 11, 12, 13, 14] [] rfl rfl (by decide) (by decide) (by decide) [0, 1, 2, 3, 4, 5, 6, 7, 8, 9, 10, 11, 12, 13, 14] (by decide) (fun _ => rfl) rfl (fun hg => vx_runV (As := [.int a1]) (rest := []) ⟨hx, hb, hml, hown, hts⟩ (c_X4_ticketOf l D cI x0 g0 g1 g2 g3 g4 l0 l1 l2 l3 l4 l5 t0 t1 t2 xr xt gn gu gb ga lc lk ln lt ll lr tw tn tt _ a1 hq1 hst) (cwV 1 hts gL_ticket_X4_ticketOf rfl rfl rfl (by decide +kernel) ⟨Nat.le_of_ble_eq_true rfl, Nat.le_of_ble_eq_true rfl⟩) ⟨PX.blind, va_recv hK hP (ci := 4) (q0 := 0) rfl rfl, fun U hU hW => ⟨rfl, hg U hU hW⟩⟩ rfl rfl hl.1 rfl (lv_room (Nat.le_of_ble_eq_true rfl)) dL_ticket_2 ⟨Nat.le_of_ble_eq_true rfl, Nat.le_of_ble_eq_true rfl⟩) (fun E ce q9 H locs hw hP hD hS hc9 hv9 hcl9 => ?_) (fun r1 u H locs hw hP hD hS => ?_)
  · rw [hw.1] at he
    try dsimp only at he
    have hE := hw.2
    subst hE
    refine vx_catch (own := RL) (name := eIO) hown [] ⟨0, 5, 6, 15⟩ [] htab (fun z hz => absurd hz List.not_mem_nil) (by decide) (by decide) (hts (.classLink RL 15 eIO) (by decide +kernel)) (hXB.cast (w := .castable eIO eIO) (by decide +kernel)) hc9 hv9 hcl9 ?_
    refine lv_astore_n (lv' := [(2, .ref q9), (0, .ref x0), (1, .int a1)]) hx hb dL_ticket_6 rfl hl (by decide) rfl (fun ls hl => ?_)
    refine lv_bipush (v := (-101)) hx hb dL_ticket_7 (by decide) ?_
    exact W.iret (v := (-101)) hx hb hr (fun t ht hW => ⟨⟨(-101), (), rfl, he, by rw [ht]; exact hP, va_K.moved hW.alike hK, hD⟩, hS.F ht⟩) hS.2.2 dL_ticket_9
  · rw [hw] at he
    try dsimp only at he
    replace hp := hp r1 hw
    exact W.iret (v := r1) hx hb hr (fun t ht hW => ⟨⟨r1, (), rfl, he, by rw [ht]; exact hP, va_K.moved hW.alike hK, hD⟩, hS.F ht⟩) hS.2.2 dL_ticket_5
abbrev rm_L_plausible : Room := { frames := 8, cells := 2, slots := 9, locals := 123 }
abbrev Q_L_plausible (D : va_G) (cI : ClassId) (x0 g0 g1 g2 g3 g4 l0 l1 l2 l3 l4 l5 t0 t1 t2 : Nat) (xr : Int32) (xt : Int32) (gn : AA) (gu : AA) (gb : AA) (ga : AA) (lc : Int32) (lk : AA) (ln : AA) (lt : AA) (ll : AA) (lr : AA) (tw : Int32) (tn : AA) (tt : AA) (a1 : Int32) (A : Nat → Prop) : Array Value → State → Outcome → State → Prop := va_Qi (S := Unit) (fun r u => f_L_plausible xr gu a1 = r) (fun u t => QW D [(cI, .int)] A (W_X4 cI x0 g0 g1 g2 g3 g4 l0 l1 l2 l3 l4 l5 t0 t1 t2 xr xt gn gu gb ga lc lk ln lt ll lr tw tn tt) t) A
set_option maxHeartbeats 4000000 in
set_option maxRecDepth 100000 in
theorem c_L_plausible (l : Launch)  (D : va_G) (cI : ClassId) (x0 g0 g1 g2 g3 g4 l0 l1 l2 l3 l4 l5 t0 t1 t2 : Nat) (xr : Int32) (xt : Int32) (gn : AA) (gu : AA) (gb : AA) (ga : AA) (lc : Int32) (lk : AA) (ln : AA) (lt : AA) (ll : AA) (lr : AA) (tw : Int32) (tn : AA) (tt : AA) (sz : Nat) (a1 : Int32) (hp : p_L_plausible xr gu a1) (hst : l.stackTraces = false) : Met l yL_plausible wsL_plausible rm_L_plausible (va_Pc [.ref x0, .int a1] (PX D [(cI, .int)] sz (W_X4 cI x0 g0 g1 g2 g3 g4 l0 l1 l2 l3 l4 l5 t0 t1 t2 xr xt gn gu gb ga lc lk ln lt ll lr tw tn tt))) (Q_L_plausible D cI x0 g0 g1 g2 g3 g4 l0 l1 l2 l3 l4 l5 t0 t1 t2 xr xt gn gu gb ga lc lk ln lt ll lr tw tn tt a1 (va_A (W_X4 cI x0 g0 g1 g2 g3 g4 l0 l1 l2 l3 l4 l5 t0 t1 t2 xr xt gn gu gb ga lc lk ln lt ll lr tw tn tt) sz)) 2 9 (va_A (W_X4 cI x0 g0 g1 g2 g3 g4 l0 l1 l2 l3 l4 l5 t0 t1 t2 xr xt gn gu gb ga lc lk ln lt ll lr tw tn tt) sz) := by
  refine va_MetW (cc := cL_plausible) (maxL := 3) (ret := (some .int)) (hh := [(0, 13, 14, 15)]) (by decide) rfl ?_
  intro p e s m args below meth c s₁ B hml hv
  obtain ⟨rfl, ⟨hsz, hP, hK, hD0, hN⟩, hXB⟩ := hv
  have hx := B.exec
  have hb := B.bytes
  have hr := B.returns
  have hts := atoms_spec (ws := wsL_plausible) B.pre
  have hown : s.vm.findClass RL = some m.cls := findClass_of_methodNamed B.named
  have hlocks := B.notSynchronized
  have htab := vx_table (x := yL_plausible) B (hts (.codeWith yL_plausible cL_plausible 3 (some .int) [(0, 13, 14, 15)]) (by decide +kernel))
  subst hsz
  have hD := hD0.self (sz := s.heap.size)
  generalize hAe : va_A (W_X4 cI x0 g0 g1 g2 g3 g4 l0 l1 l2 l3 l4 l5 t0 t1 t2 xr xt gn gu gb ga lc lk ln lt ll lr tw tn tt) s.heap.size = A at hD hXB ⊢
  have hA : ∀ q : Nat, s.heap.size ≤ q → A q := fun q h => by rw [← hAe]; exact Or.inr h
  have hS : va_S A s.heap s.heap [] := va_S.rf
  have hl := lv_entry ([.ref x0, .int a1]) (n := 3) (Nat.le_of_ble_eq_true rfl)
  rw [lg_entry_eq]
  generalize (lg_sl ([.ref x0, .int a1]) ++ List.replicate (3 - (lg_sl ([.ref x0, .int a1])).length) Slot.unset).toArray = ls at hl ⊢
  have hl : lv_has ls 3 [(0, .ref x0), (1, .int a1)] := hl
  have he := f_L_plausible.eq_1 xr gu a1
  replace hp := Eq.mp (p_L_plausible.eq_1 ..) hp
  refine lv_aload_n hx hb dL_plausible_0 rfl (lv_at hl 0 rfl) ?_
  refine lv_iload_n hx hb dL_plausible_1 rfl (lv_at hl 1 rfl) ?_
  have hq1 := hp.1
  replace hp := hp.2
  refine k_xcalli (S := Unit) (px := fun E => f_X4_isPlausible xr gu a1 = .inl E ∧ (E = eIO)) (wc := (W_X4 cI x0 g0 g1 g2 g3 g4 l0 l1 l2 l3 l4 l5 t0 t1 t2 xr xt gn gu gb ga lc lk ln lt ll lr tw tn tt)) (wr := ([] : va_W)) (w1 := fun u => (W_X4 cI x0 g0 g1 g2 g3 g4 l0 l1 l2 l3 l4 l5 t0 t1 t2 xr xt gn gu gb ga lc lk ln lt ll lr tw tn tt)) (fun u => (W_X4 cI x0 g0 g1 g2 g3 g4 l0 l1 l2 l3 l4 l5 t0 t1 t2 xr xt gn gu gb ga lc lk ln lt ll lr tw tn tt)) hP hK hD hN hXB hS hA [0, 1, 2, 3, 4, 5, 6, 7, 8, 9, 10, 11, 12, 13, 14] [] rfl rfl (by decide) (by decide) (by decide) [0, 1, 2, 3, 4, 5, 6, 7, 8, 9, 10, 11, 12, 13, 14] (by decide) (fun _ => rfl) rfl (fun hg => vx_runV (As := [.int a1]) (rest := []) ⟨hx, hb, hml, hown, hts⟩ (c_X4_isPlausible l D cI x0 g0 g1 g2 g3 g4 l0 l1 l2 l3 l4 l5 t0 t1 t2 xr xt gn gu gb ga lc lk ln lt ll lr tw tn tt _ a1 hq1 hst) (cwV 1 hts gL_plausible_X4_isPlausible rfl rfl rfl (by decide +kernel) ⟨Nat.le_of_ble_eq_true rfl, Nat.le_of_ble_eq_true rfl⟩) ⟨PX.blind, va_recv hK hP (ci := 4) (q0 := 0) rfl rfl, fun U hU hW => ⟨rfl, hg U hU hW⟩⟩ rfl rfl hl.1 rfl (lv_room (Nat.le_of_ble_eq_true rfl)) dL_plausible_2 ⟨Nat.le_of_ble_eq_true rfl, Nat.le_of_ble_eq_true rfl⟩) (fun E ce q9 H locs hw hP hD hS hc9 hv9 hcl9 => ?_) (fun r1 u H locs hw hP hD hS => ?_)
  · rw [hw.1] at he
    try dsimp only at he
    have hE := hw.2
    subst hE
    refine vx_catch (own := RL) (name := eIO) hown [] ⟨0, 13, 14, 15⟩ [] htab (fun z hz => absurd hz List.not_mem_nil) (by decide) (by decide) (hts (.classLink RL 15 eIO) (by decide +kernel)) (hXB.cast (w := .castable eIO eIO) (by decide +kernel)) hc9 hv9 hcl9 ?_
    refine lv_astore_n (lv' := [(2, .ref q9), (0, .ref x0), (1, .int a1)]) hx hb dL_plausible_14 rfl hl (by decide) rfl (fun ls hl => ?_)
    refine lv_bipush (v := (-101)) hx hb dL_plausible_15 (by decide) ?_
    exact W.iret (v := (-101)) hx hb hr (fun t ht hW => ⟨⟨(-101), (), rfl, he, by rw [ht]; exact hP, va_K.moved hW.alike hK, hD⟩, hS.F ht⟩) hS.2.2 dL_plausible_17
  · obtain ⟨hw, hb1⟩ := hw
    rw [hw] at he
    try dsimp only at he
    replace hp := hp r1 hw
    obtain ⟨j2, hJ2⟩ : ∃ z : Int32, z = (if r1 = 0 then (0 : Int32) else (1 : Int32)) := ⟨_, rfl⟩
    rw [← hJ2] at he
    try dsimp only at he
    have hpJ2 := hp.1
    replace hp := hp.2 _  hJ2.symm
    have kont2 : (j2 = 0 ∨ j2 = 1) → ∀ (H : Heap) (locs : List Loc), va_P D vwCl (W_X4 cI x0 g0 g1 g2 g3 g4 l0 l1 l2 l3 l4 l5 t0 t1 t2 xr xt gn gu gb ga lc lk ln lt ll lr tw tn tt) H → va_D A (W_X4 cI x0 g0 g1 g2 g3 g4 l0 l1 l2 l3 l4 l5 t0 t1 t2 xr xt gn gu gb ga lc lk ln lt ll lr tw tn tt) → va_S A s.heap H locs → ∀ ls : Array Slot, lv_has ls 3 [] → W p l e (headSpec wsL_plausible rm_L_plausible).room s m ([.ref x0, .int a1] : List Value).toArray below meth c H locs 2 9 (MQ below (Q_L_plausible D cI x0 g0 g1 g2 g3 g4 l0 l1 l2 l3 l4 l5 t0 t1 t2 xr xt gn gu gb ga lc lk ln lt ll lr tw tn tt a1 A) ([.ref x0, .int a1] : List Value).toArray s 2 9 A) (F0 m 13 ls [.int j2]) := by
      intro hb2 H locs hP hD hS ls hl
      exact W.iret (v := j2) hx hb hr (fun t ht hW => ⟨⟨j2, (), rfl, he, by rw [ht]; exact hP, va_K.moved hW.alike hK, hD⟩, hS.F ht⟩) hS.2.2 dL_plausible_13
    replace he := hJ2
    replace hp := hpJ2
    refine lv_if_eq (tgt := 12) hx hb dL_plausible_5 (by decide) (fun c3 => ?_) (fun c3 => ?_)
    · replace hp := hp.1 c3
      replace he := he.trans (if_pos c3)
      refine lv_iconst (v := 0) hx hb dL_plausible_12 (by decide) ?_
      subst he
      exact kont2 (Or.inl rfl) _ _ hP hD hS _ (lv_sub hl [] rfl)
    · replace hp := hp.2 c3
      replace he := he.trans (if_neg c3)
      refine lv_iconst (v := 1) hx hb dL_plausible_8 (by decide) ?_
      refine lv_goto (tgt := 13) hx hb dL_plausible_9 (by decide) ?_
      subst he
      exact kont2 (Or.inr rfl) _ _ hP hD hS _ (lv_sub hl [] rfl)
abbrev rm_L_cause : Room := { frames := 23, cells := 2, slots := 9, locals := 676 }
abbrev Q_L_cause (D : va_G) (cI : ClassId) (x0 g0 g1 g2 g3 g4 l0 l1 l2 l3 l4 l5 t0 t1 t2 : Nat) (xr : Int32) (xt : Int32) (gn : AA) (gu : AA) (gb : AA) (ga : AA) (lc : Int32) (lk : AA) (ln : AA) (lt : AA) (ll : AA) (lr : AA) (tw : Int32) (tn : AA) (tt : AA) (a1 : Int32) (A : Nat → Prop) : Array Value → State → Outcome → State → Prop := va_Qi (S := Unit) (fun r u => f_L_cause xr gu gb ga a1 = r) (fun u t => QW D [(cI, .int)] A (W_X4 cI x0 g0 g1 g2 g3 g4 l0 l1 l2 l3 l4 l5 t0 t1 t2 xr xt gn gu gb ga lc lk ln lt ll lr tw tn tt) t) A
set_option maxHeartbeats 4000000 in
set_option maxRecDepth 100000 in
theorem c_L_cause (l : Launch)  (D : va_G) (cI : ClassId) (x0 g0 g1 g2 g3 g4 l0 l1 l2 l3 l4 l5 t0 t1 t2 : Nat) (xr : Int32) (xt : Int32) (gn : AA) (gu : AA) (gb : AA) (ga : AA) (lc : Int32) (lk : AA) (ln : AA) (lt : AA) (ll : AA) (lr : AA) (tw : Int32) (tn : AA) (tt : AA) (sz : Nat) (a1 : Int32) (hp : p_L_cause xr gu gb ga a1) (hst : l.stackTraces = false) : Met l yL_cause wsL_cause rm_L_cause (va_Pc [.ref x0, .int a1] (PX D [(cI, .int)] sz (W_X4 cI x0 g0 g1 g2 g3 g4 l0 l1 l2 l3 l4 l5 t0 t1 t2 xr xt gn gu gb ga lc lk ln lt ll lr tw tn tt))) (Q_L_cause D cI x0 g0 g1 g2 g3 g4 l0 l1 l2 l3 l4 l5 t0 t1 t2 xr xt gn gu gb ga lc lk ln lt ll lr tw tn tt a1 (va_A (W_X4 cI x0 g0 g1 g2 g3 g4 l0 l1 l2 l3 l4 l5 t0 t1 t2 xr xt gn gu gb ga lc lk ln lt ll lr tw tn tt) sz)) 2 9 (va_A (W_X4 cI x0 g0 g1 g2 g3 g4 l0 l1 l2 l3 l4 l5 t0 t1 t2 xr xt gn gu gb ga lc lk ln lt ll lr tw tn tt) sz) := by
  refine va_MetW (cc := cL_cause) (maxL := 3) (ret := (some .int)) (hh := [(0, 5, 6, 15)]) (by decide) rfl ?_
  intro p e s m args below meth c s₁ B hml hv
  obtain ⟨rfl, ⟨hsz, hP, hK, hD0, hN⟩, hXB⟩ := hv
  have hx := B.exec
  have hb := B.bytes
  have hr := B.returns
  have hts := atoms_spec (ws := wsL_cause) B.pre
  have hown : s.vm.findClass RL = some m.cls := findClass_of_methodNamed B.named
  have hlocks := B.notSynchronized
  have htab := vx_table (x := yL_cause) B (hts (.codeWith yL_cause cL_cause 3 (some .int) [(0, 5, 6, 15)]) (by decide +kernel))
  subst hsz
  have hD := hD0.self (sz := s.heap.size)
  generalize hAe : va_A (W_X4 cI x0 g0 g1 g2 g3 g4 l0 l1 l2 l3 l4 l5 t0 t1 t2 xr xt gn gu gb ga lc lk ln lt ll lr tw tn tt) s.heap.size = A at hD hXB ⊢
  have hA : ∀ q : Nat, s.heap.size ≤ q → A q := fun q h => by rw [← hAe]; exact Or.inr h
  have hS : va_S A s.heap s.heap [] := va_S.rf
  have hl := lv_entry ([.ref x0, .int a1]) (n := 3) (Nat.le_of_ble_eq_true rfl)
  rw [lg_entry_eq]
  generalize (lg_sl ([.ref x0, .int a1]) ++ List.replicate (3 - (lg_sl ([.ref x0, .int a1])).length) Slot.unset).toArray = ls at hl ⊢
  have hl : lv_has ls 3 [(0, .ref x0), (1, .int a1)] := hl
  have he := f_L_cause.eq_1 xr gu gb ga a1
  replace hp := Eq.mp (p_L_cause.eq_1 ..) hp
  refine lv_aload_n hx hb dL_cause_0 rfl (lv_at hl 0 rfl) ?_
  refine lv_iload_n hx hb dL_cause_1 rfl (lv_at hl 1 rfl) ?_
  have hq1 := hp.1
  replace hp := hp.2
  refine k_xcalli (S := Unit) (px := fun E => f_X4_cause xr gu gb ga a1 = .inl E ∧ (E = eIO)) (wc := (W_X4 cI x0 g0 g1 g2 g3 g4 l0 l1 l2 l3 l4 l5 t0 t1 t2 xr xt gn gu gb ga lc lk ln lt ll lr tw tn tt)) (wr := ([] : va_W)) (w1 := fun u => (W_X4 cI x0 g0 g1 g2 g3 g4 l0 l1 l2 l3 l4 l5 t0 t1 t2 xr xt gn gu gb ga lc lk ln lt ll lr tw tn tt)) (fun u => (W_X4 cI x0 g0 g1 g2 g3 g4 l0 l1 l2 l3 l4 l5 t0 t1 t2 xr xt gn gu gb ga lc lk ln lt ll lr tw tn tt)) hP hK hD hN hXB hS hA [0, 1, 2, 3, 4, 5, 6, 7, 8, 9, 10, 11, 12, 13, 14] [] rfl rfl (by decide) (by decide) (by decide) [0, 1, 2, 3, 4, 5, 6, 7, 8, 9, 10, 11, 12, 13, 14] (by decide) (fun _ => rfl) rfl (fun hg => vx_runV (As := [.int a1]) (rest := []) ⟨hx, hb, hml, hown, hts⟩ (c_X4_cause l D cI x0 g0 g1 g2 g3 g4 l0 l1 l2 l3 l4 l5 t0 t1 t2 xr xt gn gu gb ga lc lk ln lt ll lr tw tn tt _ a1 hq1 hst) (cwV 1 hts gL_cause_X4_cause rfl rfl rfl (by decide +kernel) ⟨Nat.le_of_ble_eq_true rfl, Nat.le_of_ble_eq_true rfl⟩) ⟨PX.blind, va_recv hK hP (ci := 4) (q0 := 0) rfl rfl, fun U hU hW => ⟨rfl, hg U hU hW⟩⟩ rfl rfl hl.1 rfl (lv_room (Nat.le_of_ble_eq_true rfl)) dL_cause_2 ⟨Nat.le_of_ble_eq_true rfl, Nat.le_of_ble_eq_true rfl⟩) (fun E ce q9 H locs hw hP hD hS hc9 hv9 hcl9 => ?_) (fun r1 u H locs hw hP hD hS => ?_)
  · rw [hw.1] at he
    try dsimp only at he
    have hE := hw.2
    subst hE
    refine vx_catch (own := RL) (name := eIO) hown [] ⟨0, 5, 6, 15⟩ [] htab (fun z hz => absurd hz List.not_mem_nil) (by decide) (by decide) (hts (.classLink RL 15 eIO) (by decide +kernel)) (hXB.cast (w := .castable eIO eIO) (by decide +kernel)) hc9 hv9 hcl9 ?_
    refine lv_astore_n (lv' := [(2, .ref q9), (0, .ref x0), (1, .int a1)]) hx hb dL_cause_6 rfl hl (by decide) rfl (fun ls hl => ?_)
    refine lv_bipush (v := (-101)) hx hb dL_cause_7 (by decide) ?_
    exact W.iret (v := (-101)) hx hb hr (fun t ht hW => ⟨⟨(-101), (), rfl, he, by rw [ht]; exact hP, va_K.moved hW.alike hK, hD⟩, hS.F ht⟩) hS.2.2 dL_cause_9
  · rw [hw] at he
    try dsimp only at he
    replace hp := hp r1 hw
    exact W.iret (v := r1) hx hb hr (fun t ht hW => ⟨⟨r1, (), rfl, he, by rw [ht]; exact hP, va_K.moved hW.alike hK, hD⟩, hS.F ht⟩) hS.2.2 dL_cause_5
abbrev rm_L_tried : Room := { frames := 8, cells := 2, slots := 9, locals := 136 }
abbrev Q_L_tried (D : va_G) (cI : ClassId) (x0 g0 g1 g2 g3 g4 l0 l1 l2 l3 l4 l5 t0 t1 t2 : Nat) (xr : Int32) (xt : Int32) (gn : AA) (gu : AA) (gb : AA) (ga : AA) (lc : Int32) (lk : AA) (ln : AA) (lt : AA) (ll : AA) (lr : AA) (tw : Int32) (tn : AA) (tt : AA) (a1 : Int32) (A : Nat → Prop) : Array Value → State → Outcome → State → Prop := va_Qi (S := Unit) (fun r u => f_L_tried xr gu gb a1 = r) (fun u t => QW D [(cI, .int)] A (W_X4 cI x0 g0 g1 g2 g3 g4 l0 l1 l2 l3 l4 l5 t0 t1 t2 xr xt gn gu gb ga lc lk ln lt ll lr tw tn tt) t) A
set_option maxHeartbeats 4000000 in
set_option maxRecDepth 100000 in
theorem c_L_tried (l : Launch)  (D : va_G) (cI : ClassId) (x0 g0 g1 g2 g3 g4 l0 l1 l2 l3 l4 l5 t0 t1 t2 : Nat) (xr : Int32) (xt : Int32) (gn : AA) (gu : AA) (gb : AA) (ga : AA) (lc : Int32) (lk : AA) (ln : AA) (lt : AA) (ll : AA) (lr : AA) (tw : Int32) (tn : AA) (tt : AA) (sz : Nat) (a1 : Int32) (hp : p_L_tried xr gu gb a1) (hst : l.stackTraces = false) : Met l yL_tried wsL_tried rm_L_tried (va_Pc [.ref x0, .int a1] (PX D [(cI, .int)] sz (W_X4 cI x0 g0 g1 g2 g3 g4 l0 l1 l2 l3 l4 l5 t0 t1 t2 xr xt gn gu gb ga lc lk ln lt ll lr tw tn tt))) (Q_L_tried D cI x0 g0 g1 g2 g3 g4 l0 l1 l2 l3 l4 l5 t0 t1 t2 xr xt gn gu gb ga lc lk ln lt ll lr tw tn tt a1 (va_A (W_X4 cI x0 g0 g1 g2 g3 g4 l0 l1 l2 l3 l4 l5 t0 t1 t2 xr xt gn gu gb ga lc lk ln lt ll lr tw tn tt) sz)) 2 9 (va_A (W_X4 cI x0 g0 g1 g2 g3 g4 l0 l1 l2 l3 l4 l5 t0 t1 t2 xr xt gn gu gb ga lc lk ln lt ll lr tw tn tt) sz) := by
  refine va_MetW (cc := cL_tried) (maxL := 3) (ret := (some .int)) (hh := [(0, 5, 6, 15)]) (by decide) rfl ?_
  intro p e s m args below meth c s₁ B hml hv
  obtain ⟨rfl, ⟨hsz, hP, hK, hD0, hN⟩, hXB⟩ := hv
  have hx := B.exec
  have hb := B.bytes
  have hr := B.returns
  have hts := atoms_spec (ws := wsL_tried) B.pre
  have hown : s.vm.findClass RL = some m.cls := findClass_of_methodNamed B.named
  have hlocks := B.notSynchronized
  have htab := vx_table (x := yL_tried) B (hts (.codeWith yL_tried cL_tried 3 (some .int) [(0, 5, 6, 15)]) (by decide +kernel))
  subst hsz
  have hD := hD0.self (sz := s.heap.size)
  generalize hAe : va_A (W_X4 cI x0 g0 g1 g2 g3 g4 l0 l1 l2 l3 l4 l5 t0 t1 t2 xr xt gn gu gb ga lc lk ln lt ll lr tw tn tt) s.heap.size = A at hD hXB ⊢
  have hA : ∀ q : Nat, s.heap.size ≤ q → A q := fun q h => by rw [← hAe]; exact Or.inr h
  have hS : va_S A s.heap s.heap [] := va_S.rf
  have hl := lv_entry ([.ref x0, .int a1]) (n := 3) (Nat.le_of_ble_eq_true rfl)
  rw [lg_entry_eq]
  generalize (lg_sl ([.ref x0, .int a1]) ++ List.replicate (3 - (lg_sl ([.ref x0, .int a1])).length) Slot.unset).toArray = ls at hl ⊢
  have hl : lv_has ls 3 [(0, .ref x0), (1, .int a1)] := hl
  have he := f_L_tried.eq_1 xr gu gb a1
  replace hp := Eq.mp (p_L_tried.eq_1 ..) hp
  refine lv_aload_n hx hb dL_tried_0 rfl (lv_at hl 0 rfl) ?_
  refine lv_iload_n hx hb dL_tried_1 rfl (lv_at hl 1 rfl) ?_
  have hq1 := hp.1
  replace hp := hp.2
  refine k_xcalli (S := Unit) (px := fun E => f_X4_causeByTrying xr gu gb a1 = .inl E ∧ (E = eIO)) (wc := (W_X4 cI x0 g0 g1 g2 g3 g4 l0 l1 l2 l3 l4 l5 t0 t1 t2 xr xt gn gu gb ga lc lk ln lt ll lr tw tn tt)) (wr := ([] : va_W)) (w1 := fun u => (W_X4 cI x0 g0 g1 g2 g3 g4 l0 l1 l2 l3 l4 l5 t0 t1 t2 xr xt gn gu gb ga lc lk ln lt ll lr tw tn tt)) (fun u => (W_X4 cI x0 g0 g1 g2 g3 g4 l0 l1 l2 l3 l4 l5 t0 t1 t2 xr xt gn gu gb ga lc lk ln lt ll lr tw tn tt)) hP hK hD hN hXB hS hA [0, 1, 2, 3, 4, 5, 6, 7, 8, 9, 10, 11, 12, 13, 14] [] rfl rfl (by decide) (by decide) (by decide) [0, 1, 2, 3, 4, 5, 6, 7, 8, 9, 10, 11, 12, 13, 14] (by decide) (fun _ => rfl) rfl (fun hg => vx_runV (As := [.int a1]) (rest := []) ⟨hx, hb, hml, hown, hts⟩ (c_X4_causeByTrying l D cI x0 g0 g1 g2 g3 g4 l0 l1 l2 l3 l4 l5 t0 t1 t2 xr xt gn gu gb ga lc lk ln lt ll lr tw tn tt _ a1 hq1 hst) (cwV 1 hts gL_tried_X4_causeByTrying rfl rfl rfl (by decide +kernel) ⟨Nat.le_of_ble_eq_true rfl, Nat.le_of_ble_eq_true rfl⟩) ⟨PX.blind, va_recv hK hP (ci := 4) (q0 := 0) rfl rfl, fun U hU hW => ⟨rfl, hg U hU hW⟩⟩ rfl rfl hl.1 rfl (lv_room (Nat.le_of_ble_eq_true rfl)) dL_tried_2 ⟨Nat.le_of_ble_eq_true rfl, Nat.le_of_ble_eq_true rfl⟩) (fun E ce q9 H locs hw hP hD hS hc9 hv9 hcl9 => ?_) (fun r1 u H locs hw hP hD hS => ?_)
  · rw [hw.1] at he
    try dsimp only at he
    have hE := hw.2
    subst hE
    refine vx_catch (own := RL) (name := eIO) hown [] ⟨0, 5, 6, 15⟩ [] htab (fun z hz => absurd hz List.not_mem_nil) (by decide) (by decide) (hts (.classLink RL 15 eIO) (by decide +kernel)) (hXB.cast (w := .castable eIO eIO) (by decide +kernel)) hc9 hv9 hcl9 ?_
    refine lv_astore_n (lv' := [(2, .ref q9), (0, .ref x0), (1, .int a1)]) hx hb dL_tried_6 rfl hl (by decide) rfl (fun ls hl => ?_)
    refine lv_bipush (v := (-101)) hx hb dL_tried_7 (by decide) ?_
    exact W.iret (v := (-101)) hx hb hr (fun t ht hW => ⟨⟨(-101), (), rfl, he, by rw [ht]; exact hP, va_K.moved hW.alike hK, hD⟩, hS.F ht⟩) hS.2.2 dL_tried_9
  · rw [hw] at he
    try dsimp only at he
    replace hp := hp r1 hw
    exact W.iret (v := r1) hx hb hr (fun t ht hW => ⟨⟨r1, (), rfl, he, by rw [ht]; exact hP, va_K.moved hW.alike hK, hD⟩, hS.F ht⟩) hS.2.2 dL_tried_5
abbrev rm_L_greedy : Room := { frames := 7, cells := 2, slots := 9, locals := 113 }
abbrev Q_L_greedy (D : va_G) (cI : ClassId) (x0 g0 g1 g2 g3 g4 l0 l1 l2 l3 l4 l5 t0 t1 t2 : Nat) (xr : Int32) (xt : Int32) (gn : AA) (gu : AA) (gb : AA) (ga : AA) (lc : Int32) (lk : AA) (ln : AA) (lt : AA) (ll : AA) (lr : AA) (tw : Int32) (tn : AA) (tt : AA) (a1 : Int32) (A : Nat → Prop) : Array Value → State → Outcome → State → Prop := va_Qi (S := Unit) (fun r u => f_L_greedy xr gu ga a1 = r) (fun u t => QW D [(cI, .int)] A (W_X4 cI x0 g0 g1 g2 g3 g4 l0 l1 l2 l3 l4 l5 t0 t1 t2 xr xt gn gu gb ga lc lk ln lt ll lr tw tn tt) t) A
set_option maxHeartbeats 4000000 in
set_option maxRecDepth 100000 in
theorem c_L_greedy (l : Launch)  (D : va_G) (cI : ClassId) (x0 g0 g1 g2 g3 g4 l0 l1 l2 l3 l4 l5 t0 t1 t2 : Nat) (xr : Int32) (xt : Int32) (gn : AA) (gu : AA) (gb : AA) (ga : AA) (lc : Int32) (lk : AA) (ln : AA) (lt : AA) (ll : AA) (lr : AA) (tw : Int32) (tn : AA) (tt : AA) (sz : Nat) (a1 : Int32) (hp : p_L_greedy xr gu ga a1) (hst : l.stackTraces = false) : Met l yL_greedy wsL_greedy rm_L_greedy (va_Pc [.ref x0, .int a1] (PX D [(cI, .int)] sz (W_X4 cI x0 g0 g1 g2 g3 g4 l0 l1 l2 l3 l4 l5 t0 t1 t2 xr xt gn gu gb ga lc lk ln lt ll lr tw tn tt))) (Q_L_greedy D cI x0 g0 g1 g2 g3 g4 l0 l1 l2 l3 l4 l5 t0 t1 t2 xr xt gn gu gb ga lc lk ln lt ll lr tw tn tt a1 (va_A (W_X4 cI x0 g0 g1 g2 g3 g4 l0 l1 l2 l3 l4 l5 t0 t1 t2 xr xt gn gu gb ga lc lk ln lt ll lr tw tn tt) sz)) 2 9 (va_A (W_X4 cI x0 g0 g1 g2 g3 g4 l0 l1 l2 l3 l4 l5 t0 t1 t2 xr xt gn gu gb ga lc lk ln lt ll lr tw tn tt) sz) := by
  refine va_MetW (cc := cL_greedy) (maxL := 3) (ret := (some .int)) (hh := [(0, 5, 6, 15)]) (by decide) rfl ?_
  intro p e s m args below meth c s₁ B hml hv
  obtain ⟨rfl, ⟨hsz, hP, hK, hD0, hN⟩, hXB⟩ := hv
  have hx := B.exec
  have hb := B.bytes
  have hr := B.returns
  have hts := atoms_spec (ws := wsL_greedy) B.pre
  have hown : s.vm.findClass RL = some m.cls := findClass_of_methodNamed B.named
  have hlocks := B.notSynchronized
  have htab := vx_table (x := yL_greedy) B (hts (.codeWith yL_greedy cL_greedy 3 (some .int) [(0, 5, 6, 15)]) (by decide +kernel))
  subst hsz
  have hD := hD0.self (sz := s.heap.size)
  generalize hAe : va_A (W_X4 cI x0 g0 g1 g2 g3 g4 l0 l1 l2 l3 l4 l5 t0 t1 t2 xr xt gn gu gb ga lc lk ln lt ll lr tw tn tt) s.heap.size = A at hD hXB ⊢
  have hA : ∀ q : Nat, s.heap.size ≤ q → A q := fun q h => by rw [← hAe]; exact Or.inr h
  have hS : va_S A s.heap s.heap [] := va_S.rf
  have hl := lv_entry ([.ref x0, .int a1]) (n := 3) (Nat.le_of_ble_eq_true rfl)
  rw [lg_entry_eq]
  generalize (lg_sl ([.ref x0, .int a1]) ++ List.replicate (3 - (lg_sl ([.ref x0, .int a1])).length) Slot.unset).toArray = ls at hl ⊢
  have hl : lv_has ls 3 [(0, .ref x0), (1, .int a1)] := hl
  have he := f_L_greedy.eq_1 xr gu ga a1
  replace hp := Eq.mp (p_L_greedy.eq_1 ..) hp
  refine lv_aload_n hx hb dL_greedy_0 rfl (lv_at hl 0 rfl) ?_
  refine lv_iload_n hx hb dL_greedy_1 rfl (lv_at hl 1 rfl) ?_
  have hq1 := hp.1
  replace hp := hp.2
  refine k_xcalli (S := Unit) (px := fun E => f_X4_greedyCause xr gu ga a1 = .inl E ∧ (E = eIO)) (wc := (W_X4 cI x0 g0 g1 g2 g3 g4 l0 l1 l2 l3 l4 l5 t0 t1 t2 xr xt gn gu gb ga lc lk ln lt ll lr tw tn tt)) (wr := ([] : va_W)) (w1 := fun u => (W_X4 cI x0 g0 g1 g2 g3 g4 l0 l1 l2 l3 l4 l5 t0 t1 t2 xr xt gn gu gb ga lc lk ln lt ll lr tw tn tt)) (fun u => (W_X4 cI x0 g0 g1 g2 g3 g4 l0 l1 l2 l3 l4 l5 t0 t1 t2 xr xt gn gu gb ga lc lk ln lt ll lr tw tn tt)) hP hK hD hN hXB hS hA [0, 1, 2, 3, 4, 5, 6, 7, 8, 9, 10, 11, 12, 13, 14] [] rfl rfl (by decide) (by decide) (by decide) [0, 1, 2, 3, 4, 5, 6, 7, 8, 9, 10, 11, 12, 13, 14] (by decide) (fun _ => rfl) rfl (fun hg => vx_runV (As := [.int a1]) (rest := []) ⟨hx, hb, hml, hown, hts⟩ (c_X4_greedyCause l D cI x0 g0 g1 g2 g3 g4 l0 l1 l2 l3 l4 l5 t0 t1 t2 xr xt gn gu gb ga lc lk ln lt ll lr tw tn tt _ a1 hq1 hst) (cwV 1 hts gL_greedy_X4_greedyCause rfl rfl rfl (by decide +kernel) ⟨Nat.le_of_ble_eq_true rfl, Nat.le_of_ble_eq_true rfl⟩) ⟨PX.blind, va_recv hK hP (ci := 4) (q0 := 0) rfl rfl, fun U hU hW => ⟨rfl, hg U hU hW⟩⟩ rfl rfl hl.1 rfl (lv_room (Nat.le_of_ble_eq_true rfl)) dL_greedy_2 ⟨Nat.le_of_ble_eq_true rfl, Nat.le_of_ble_eq_true rfl⟩) (fun E ce q9 H locs hw hP hD hS hc9 hv9 hcl9 => ?_) (fun r1 u H locs hw hP hD hS => ?_)
  · rw [hw.1] at he
    try dsimp only at he
    have hE := hw.2
    subst hE
    refine vx_catch (own := RL) (name := eIO) hown [] ⟨0, 5, 6, 15⟩ [] htab (fun z hz => absurd hz List.not_mem_nil) (by decide) (by decide) (hts (.classLink RL 15 eIO) (by decide +kernel)) (hXB.cast (w := .castable eIO eIO) (by decide +kernel)) hc9 hv9 hcl9 ?_
    refine lv_astore_n (lv' := [(2, .ref q9), (0, .ref x0), (1, .int a1)]) hx hb dL_greedy_6 rfl hl (by decide) rfl (fun ls hl => ?_)
    refine lv_bipush (v := (-101)) hx hb dL_greedy_7 (by decide) ?_
    exact W.iret (v := (-101)) hx hb hr (fun t ht hW => ⟨⟨(-101), (), rfl, he, by rw [ht]; exact hP, va_K.moved hW.alike hK, hD⟩, hS.F ht⟩) hS.2.2 dL_greedy_9
  · rw [hw] at he
    try dsimp only at he
    replace hp := hp r1 hw
    exact W.iret (v := r1) hx hb hr (fun t ht hW => ⟨⟨r1, (), rfl, he, by rw [ht]; exact hP, va_K.moved hW.alike hK, hD⟩, hS.F ht⟩) hS.2.2 dL_greedy_5
abbrev rm_L_causeOf : Room := { frames := 23, cells := 2, slots := 9, locals := 676 }
abbrev Q_L_causeOf (D : va_G) (cI : ClassId) (x0 g0 g1 g2 g3 g4 l0 l1 l2 l3 l4 l5 t0 t1 t2 : Nat) (xr : Int32) (xt : Int32) (gn : AA) (gu : AA) (gb : AA) (ga : AA) (lc : Int32) (lk : AA) (ln : AA) (lt : AA) (ll : AA) (lr : AA) (tw : Int32) (tn : AA) (tt : AA) (a1 : Int32) (A : Nat → Prop) : Array Value → State → Outcome → State → Prop := va_Qi (S := Unit) (fun r u => f_L_causeOf xr gu gb ga a1 = r) (fun u t => QW D [(cI, .int)] A (W_X4 cI x0 g0 g1 g2 g3 g4 l0 l1 l2 l3 l4 l5 t0 t1 t2 xr xt gn gu gb ga lc lk ln lt ll lr tw tn tt) t) A
set_option maxHeartbeats 4000000 in
set_option maxRecDepth 100000 in
theorem c_L_causeOf (l : Launch)  (D : va_G) (cI : ClassId) (x0 g0 g1 g2 g3 g4 l0 l1 l2 l3 l4 l5 t0 t1 t2 : Nat) (xr : Int32) (xt : Int32) (gn : AA) (gu : AA) (gb : AA) (ga : AA) (lc : Int32) (lk : AA) (ln : AA) (lt : AA) (ll : AA) (lr : AA) (tw : Int32) (tn : AA) (tt : AA) (sz : Nat) (a1 : Int32) (hp : p_L_causeOf xr gu gb ga a1) (hst : l.stackTraces = false) : Met l yL_causeOf wsL_causeOf rm_L_causeOf (va_Pc [.ref x0, .int a1] (PX D [(cI, .int)] sz (W_X4 cI x0 g0 g1 g2 g3 g4 l0 l1 l2 l3 l4 l5 t0 t1 t2 xr xt gn gu gb ga lc lk ln lt ll lr tw tn tt))) (Q_L_causeOf D cI x0 g0 g1 g2 g3 g4 l0 l1 l2 l3 l4 l5 t0 t1 t2 xr xt gn gu gb ga lc lk ln lt ll lr tw tn tt a1 (va_A (W_X4 cI x0 g0 g1 g2 g3 g4 l0 l1 l2 l3 l4 l5 t0 t1 t2 xr xt gn gu gb ga lc lk ln lt ll lr tw tn tt) sz)) 2 9 (va_A (W_X4 cI x0 g0 g1 g2 g3 g4 l0 l1 l2 l3 l4 l5 t0 t1 t2 xr xt gn gu gb ga lc lk ln lt ll lr tw tn tt) sz) := by
  refine va_MetW (cc := cL_causeOf) (maxL := 3) (ret := (some .int)) (hh := [(0, 5, 6, 15)]) (by decide) rfl ?_
  intro p e s m args below meth c s₁ B hml hv
  obtain ⟨rfl, ⟨hsz, hP, hK, hD0, hN⟩, hXB⟩ := hv
  have hx := B.exec
  have hb := B.bytes
  have hr := B.returns
  have hts := atoms_spec (ws := wsL_causeOf) B.pre
  have hown : s.vm.findClass RL = some m.cls := findClass_of_methodNamed B.named
  have hlocks := B.notSynchronized
  have htab := vx_table (x := yL_causeOf) B (hts (.codeWith yL_causeOf cL_causeOf 3 (some .int) [(0, 5, 6, 15)]) (by decide +kernel))
  subst hsz
  have hD := hD0.self (sz := s.heap.size)
  generalize hAe : va_A (W_X4 cI x0 g0 g1 g2 g3 g4 l0 l1 l2 l3 l4 l5 t0 t1 t2 xr xt gn gu gb ga lc lk ln lt ll lr tw tn tt) s.heap.size = A at hD hXB ⊢
  have hA : ∀ q : Nat, s.heap.size ≤ q → A q := fun q h => by rw [← hAe]; exact Or.inr h
  have hS : va_S A s.heap s.heap [] := va_S.rf
  have hl := lv_entry ([.ref x0, .int a1]) (n := 3) (Nat.le_of_ble_eq_true rfl)
  rw [lg_entry_eq]
  generalize (lg_sl ([.ref x0, .int a1]) ++ List.replicate (3 - (lg_sl ([.ref x0, .int a1])).length) Slot.unset).toArray = ls at hl ⊢
  have hl : lv_has ls 3 [(0, .ref x0), (1, .int a1)] := hl
  have he := f_L_causeOf.eq_1 xr gu gb ga a1
  replace hp := Eq.mp (p_L_causeOf.eq_1 ..) hp
  refine lv_aload_n hx hb dL_causeOf_0 rfl (lv_at hl 0 rfl) ?_
  refine lv_iload_n hx hb dL_causeOf_1 rfl (lv_at hl 1 rfl) ?_
  have hq1 := hp.1
  replace hp := hp.2
  refine k_xcalli (S := Unit) (px := fun E => f_X4_causeOf xr gu gb ga a1 = .inl E ∧ (E = eIO)) (wc := (W_X4 cI x0 g0 g1 g2 g3 g4 l0 l1 l2 l3 l4 l5 t0 t1 t2 xr xt gn gu gb ga lc lk ln lt ll lr tw tn tt)) (wr := ([] : va_W)) (w1 := fun u => (W_X4 cI x0 g0 g1 g2 g3 g4 l0 l1 l2 l3 l4 l5 t0 t1 t2 xr xt gn gu gb ga lc lk ln lt ll lr tw tn tt)) (fun u => (W_X4 cI x0 g0 g1 g2 g3 g4 l0 l1 l2 l3 l4 l5 t0 t1 t2 xr xt gn gu gb ga lc lk ln lt ll lr tw tn tt)) hP hK hD hN hXB hS hA [0, 1, 2, 3, 4, 5, 6, 7, 8, 9, 10, 11, 12, 13, 14] [] rfl rfl (by decide) (by decide) (by decide) [0, 1, 2, 3, 4, 5, 6, 7, 8, 9, 10, 11, 12, 13, 14] (by decide) (fun _ => rfl) rfl (fun hg => vx_runV (As := [.int a1]) (rest := []) ⟨hx, hb, hml, hown, hts⟩ (c_X4_causeOf l D cI x0 g0 g1 g2 g3 g4 l0 l1 l2 l3 l4 l5 t0 t1 t2 xr xt gn gu gb ga lc lk ln lt ll lr tw tn tt _ a1 hq1 hst) (cwV 1 hts gL_causeOf_X4_causeOf rfl rfl rfl (by decide +kernel) ⟨Nat.le_of_ble_eq_true rfl, Nat.le_of_ble_eq_true rfl⟩) ⟨PX.blind, va_recv hK hP (ci := 4) (q0 := 0) rfl rfl, fun U hU hW => ⟨rfl, hg U hU hW⟩⟩ rfl rfl hl.1 rfl (lv_room (Nat.le_of_ble_eq_true rfl)) dL_causeOf_2 ⟨Nat.le_of_ble_eq_true rfl, Nat.le_of_ble_eq_true rfl⟩) (fun E ce q9 H locs hw hP hD hS hc9 hv9 hcl9 => ?_) (fun r1 u H locs hw hP hD hS => ?_)
  · rw [hw.1] at he
    try dsimp only at he
    have hE := hw.2
    subst hE
    refine vx_catch (own := RL) (name := eIO) hown [] ⟨0, 5, 6, 15⟩ [] htab (fun z hz => absurd hz List.not_mem_nil) (by decide) (by decide) (hts (.classLink RL 15 eIO) (by decide +kernel)) (hXB.cast (w := .castable eIO eIO) (by decide +kernel)) hc9 hv9 hcl9 ?_
    refine lv_astore_n (lv' := [(2, .ref q9), (0, .ref x0), (1, .int a1)]) hx hb dL_causeOf_6 rfl hl (by decide) rfl (fun ls hl => ?_)
    refine lv_bipush (v := (-101)) hx hb dL_causeOf_7 (by decide) ?_
    exact W.iret (v := (-101)) hx hb hr (fun t ht hW => ⟨⟨(-101), (), rfl, he, by rw [ht]; exact hP, va_K.moved hW.alike hK, hD⟩, hS.F ht⟩) hS.2.2 dL_causeOf_9
  · rw [hw] at he
    try dsimp only at he
    replace hp := hp r1 hw
    exact W.iret (v := r1) hx hb hr (fun t ht hW => ⟨⟨r1, (), rfl, he, by rw [ht]; exact hP, va_K.moved hW.alike hK, hD⟩, hS.F ht⟩) hS.2.2 dL_causeOf_5
