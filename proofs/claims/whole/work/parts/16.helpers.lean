abbrev rm_L_need : Room := { frames := 8, cells := 3, slots := 18, locals := 153 }
abbrev Q_L_need (D : va_G) (cI : ClassId) (cJ : ClassId) (x0 g0 g1 g2 g3 g4 l0 l1 l2 l3 l4 l5 t0 t1 t2 o0 : Nat) (xr : Int32) (xt : Int32) (gn : AA) (gu : AA) (gb : AA) (ga : AA) (lc : Int32) (lk : AA) (ln : AA) (lt : AA) (ll : AA) (lr : AA) (tw : Int32) (tn : AA) (tt : AA) (oo : LA) (a1 a2 : Int32) (A : Nat → Prop) : Array Value → State → Outcome → State → Prop := va_Qi (S := AA × AA × AA × AA × LA) (fun r u => f_L_need gn gu gb ga oo a1 a2 = (r, u)) (fun u t => QW D [(cI, .int), (cJ, .long)] A (W_O cI cJ x0 g0 g1 g2 g3 g4 l0 l1 l2 l3 l4 l5 t0 t1 t2 o0 xr xt u.1 u.2.1 u.2.2.1 u.2.2.2.1 lc lk ln lt ll lr tw tn tt u.2.2.2.2) t) A
set_option maxHeartbeats 4000000 in
set_option maxRecDepth 100000 in
theorem c_L_need (l : Launch)  (D : va_G) (cI : ClassId) (cJ : ClassId) (x0 g0 g1 g2 g3 g4 l0 l1 l2 l3 l4 l5 t0 t1 t2 o0 : Nat) (xr : Int32) (xt : Int32) (gn : AA) (gu : AA) (gb : AA) (ga : AA) (lc : Int32) (lk : AA) (ln : AA) (lt : AA) (ll : AA) (lr : AA) (tw : Int32) (tn : AA) (tt : AA) (oo : LA) (sz : Nat) (a1 a2 : Int32) (hp : p_L_need gn gu gb ga a1 a2) (hst : l.stackTraces = false) : Met l yL_need wsL_need rm_L_need (va_Pc [.ref x0, .int a1, .int a2, .ref o0] (PX D [(cI, .int), (cJ, .long)] sz (W_O cI cJ x0 g0 g1 g2 g3 g4 l0 l1 l2 l3 l4 l5 t0 t1 t2 o0 xr xt gn gu gb ga lc lk ln lt ll lr tw tn tt oo))) (Q_L_need D cI cJ x0 g0 g1 g2 g3 g4 l0 l1 l2 l3 l4 l5 t0 t1 t2 o0 xr xt gn gu gb ga lc lk ln lt ll lr tw tn tt oo a1 a2 (va_A (W_O cI cJ x0 g0 g1 g2 g3 g4 l0 l1 l2 l3 l4 l5 t0 t1 t2 o0 xr xt gn gu gb ga lc lk ln lt ll lr tw tn tt oo) sz)) 3 18 (va_A (W_O cI cJ x0 g0 g1 g2 g3 g4 l0 l1 l2 l3 l4 l5 t0 t1 t2 o0 xr xt gn gu gb ga lc lk ln lt ll lr tw tn tt oo) sz) := by
  refine va_MetW (cc := cL_need) (maxL := 5) (ret := (some .int)) (hh := [(0, 17, 20, 13), (0, 17, 24, 15)]) (by decide) rfl ?_
  intro p e s m args below meth c s₁ B hml hv
  obtain ⟨rfl, ⟨hsz, hP, hK, hD0, hN⟩, hXB⟩ := hv
  have hx := B.exec
  have hb := B.bytes
  have hr := B.returns
  have hts := atoms_spec (ws := wsL_need) B.pre
  have hown : s.vm.findClass RL = some m.cls := findClass_of_methodNamed B.named
  have hlocks := B.notSynchronized
  have htab := vx_table (x := yL_need) B (hts (.codeWith yL_need cL_need 5 (some .int) [(0, 17, 20, 13), (0, 17, 24, 15)]) (by decide +kernel))
  subst hsz
  have hD := hD0.self (sz := s.heap.size)
  generalize hAe : va_A (W_O cI cJ x0 g0 g1 g2 g3 g4 l0 l1 l2 l3 l4 l5 t0 t1 t2 o0 xr xt gn gu gb ga lc lk ln lt ll lr tw tn tt oo) s.heap.size = A at hD hXB ⊢
  have hA : ∀ q : Nat, s.heap.size ≤ q → A q := fun q h => by rw [← hAe]; exact Or.inr h
  have hS : va_S A s.heap s.heap [] := va_S.rf
  have hl := lv_entry ([.ref x0, .int a1, .int a2, .ref o0]) (n := 5) (Nat.le_of_ble_eq_true rfl)
  rw [lg_entry_eq]
  generalize (lg_sl ([.ref x0, .int a1, .int a2, .ref o0]) ++ List.replicate (5 - (lg_sl ([.ref x0, .int a1, .int a2, .ref o0])).length) Slot.unset).toArray = ls at hl ⊢
  have hl : lv_has ls 5 [(0, .ref x0), (1, .int a1), (2, .int a2), (3, .ref o0)] := hl
  have he := f_L_need.eq_1 gn gu gb ga oo a1 a2
  replace hp := Eq.mp (p_L_need.eq_1 ..) hp
  refine lv_aload_n hx hb dL_need_0 rfl (lv_at hl 3 rfl) ?_
  refine lv_iconst (v := 0) hx hb dL_need_1 (by decide) ?_
  refine lv_aload_n hx hb dL_need_2 rfl (lv_at hl 0 rfl) ?_
  refine lv_iload_n hx hb dL_need_3 rfl (lv_at hl 1 rfl) ?_
  refine lv_iload_n hx hb dL_need_4 rfl (lv_at hl 2 rfl) ?_
  have hq1 := hp.1
  replace hp := hp.2
  refine k_xcalli (S := AA × AA × AA × AA) (px := fun E => f_X4_need gn gu gb ga a1 a2 = .inl E ∧ (E = eIO ∨ E = eIA)) (wc := (W_X4 cI x0 g0 g1 g2 g3 g4 l0 l1 l2 l3 l4 l5 t0 t1 t2 xr xt gn gu gb ga lc lk ln lt ll lr tw tn tt)) (wr := [(o0, .inl (cJ, 1, .inr (.inl oo)))]) (w1 := fun u => (W_X4 cI x0 g0 g1 g2 g3 g4 l0 l1 l2 l3 l4 l5 t0 t1 t2 xr xt u.1 u.2.1 u.2.2.1 u.2.2.2 lc lk ln lt ll lr tw tn tt)) (fun u => (W_O cI cJ x0 g0 g1 g2 g3 g4 l0 l1 l2 l3 l4 l5 t0 t1 t2 o0 xr xt u.1 u.2.1 u.2.2.1 u.2.2.2 lc lk ln lt ll lr tw tn tt oo)) hP (hK.sub [0] rfl) hD hN hXB hS hA [0, 1, 2, 3, 4, 5, 6, 7, 8, 9, 10, 11, 12, 13, 14] [15] rfl rfl (by decide) (by decide) (by decide) [1, 2, 3, 4, 5, 6, 7, 8, 9, 10, 11, 12, 13, 14, 15, 0] (by decide) (fun _ => rfl) rfl (fun hg => vx_runV (As := [.int a1, .int a2]) (rest := [.int 0, .ref o0]) ⟨hx, hb, hml, hown, hts⟩ (c_X4_need l D cI x0 g0 g1 g2 g3 g4 l0 l1 l2 l3 l4 l5 t0 t1 t2 xr xt gn gu gb ga lc lk ln lt ll lr tw tn tt _ a1 a2 hq1 hst) (cwV 2 hts gL_need_X4_need rfl rfl rfl (by decide +kernel) ⟨Nat.le_of_ble_eq_true rfl, Nat.le_of_ble_eq_true rfl⟩) ⟨PX.blind, va_recv hK hP (ci := 4) (q0 := 0) rfl rfl, fun U hU hW => ⟨rfl, hg U hU hW⟩⟩ rfl rfl hl.1 rfl (lv_room (Nat.le_of_ble_eq_true rfl)) dL_need_5 ⟨Nat.le_of_ble_eq_true rfl, Nat.le_of_ble_eq_true rfl⟩) (fun E ce q9 H locs hw hP hD hS hc9 hv9 hcl9 => ?_) (fun r1 u H locs hw hP hD hS => ?_)
  · rw [hw.1] at he
    try dsimp only at he
    rcases hw.2 with hE | hE
    · subst hE
      replace he := he.trans (if_pos rfl)
      refine vx_catch (own := RL) (name := eIO) hown [] ⟨0, 17, 20, 13⟩ [⟨0, 17, 24, 15⟩] htab (fun z hz => absurd hz List.not_mem_nil) (by decide) (by decide) (hts (.classLink RL 13 eIO) (by decide +kernel)) (hXB.cast (w := .castable eIO eIO) (by decide +kernel)) hc9 hv9 hcl9 ?_
      refine lv_astore (lv' := [(4, .ref q9), (0, .ref x0), (1, .int a1), (2, .int a2), (3, .ref o0)]) hx hb dL_need_20 hl (by decide) rfl (fun ls hl => ?_)
      refine lv_iconst (v := 1) hx hb dL_need_22 (by decide) ?_
      exact W.iret (v := 1) hx hb hr (fun t ht hW => ⟨⟨1, (gn, gu, gb, ga, oo), rfl, he, by rw [ht]; exact hP, va_K.moved hW.alike hK, hD⟩, hS.F ht⟩) hS.2.2 dL_need_23
    · subst hE
      replace he := he.trans (if_neg (by decide +kernel))
      refine vx_catch (own := RL) (name := eIA) hown [⟨0, 17, 20, 13⟩] ⟨0, 17, 24, 15⟩ [] htab (fun z hz => by rcases List.mem_singleton.mp hz with rfl; exact Or.inr ⟨by decide, eIO, hts (.classLink RL 13 eIO) (by decide +kernel), hXB.2.2.2.1⟩) (by decide) (by decide) (hts (.classLink RL 15 eIA) (by decide +kernel)) (hXB.cast (w := .castable eIA eIA) (by decide +kernel)) hc9 hv9 hcl9 ?_
      refine lv_astore (lv' := [(4, .ref q9), (0, .ref x0), (1, .int a1), (2, .int a2), (3, .ref o0)]) hx hb dL_need_24 hl (by decide) rfl (fun ls hl => ?_)
      refine lv_iconst (v := 2) hx hb dL_need_26 (by decide) ?_
      exact W.iret (v := 2) hx hb hr (fun t ht hW => ⟨⟨2, (gn, gu, gb, ga, oo), rfl, he, by rw [ht]; exact hP, va_K.moved hW.alike hK, hD⟩, hS.F ht⟩) hS.2.2 dL_need_27
  · obtain ⟨u1_0, u1_1, u1_2, u1_3⟩ := u
    obtain ⟨hw, hb1⟩ := hw
    rw [hw] at he
    try dsimp only at he
    replace hp := hp r1 u1_0 u1_1 u1_2 u1_3 hw
    have hP : va_P D vwCl (W_O cI cJ x0 g0 g1 g2 g3 g4 l0 l1 l2 l3 l4 l5 t0 t1 t2 o0 xr xt u1_0 u1_1 u1_2 u1_3 lc lk ln lt ll lr tw tn tt oo) H := hP
    have hD : va_D A (W_O cI cJ x0 g0 g1 g2 g3 g4 l0 l1 l2 l3 l4 l5 t0 t1 t2 o0 xr xt u1_0 u1_1 u1_2 u1_3 lc lk ln lt ll lr tw tn tt oo) := hD
    obtain ⟨j2, hJ2⟩ : ∃ z : Int64, z = (if r1 = 0 then (0 : Int64) else (1 : Int64)) := ⟨_, rfl⟩
    rw [← hJ2] at he
    try dsimp only at he
    have hpJ2 := hp.1
    replace hp := hp.2 _  hJ2.symm
    have kont2 : ∀ (H : Heap) (locs : List Loc), va_P D vwCl (W_O cI cJ x0 g0 g1 g2 g3 g4 l0 l1 l2 l3 l4 l5 t0 t1 t2 o0 xr xt u1_0 u1_1 u1_2 u1_3 lc lk ln lt ll lr tw tn tt oo) H → va_D A (W_O cI cJ x0 g0 g1 g2 g3 g4 l0 l1 l2 l3 l4 l5 t0 t1 t2 o0 xr xt u1_0 u1_1 u1_2 u1_3 lc lk ln lt ll lr tw tn tt oo) → va_S A s.heap H locs → ∀ ls : Array Slot, lv_has ls 5 [] → W p l e (headSpec wsL_need rm_L_need).room s m ([.ref x0, .int a1, .int a2, .ref o0] : List Value).toArray below meth c H locs 3 18 (MQ below (Q_L_need D cI cJ x0 g0 g1 g2 g3 g4 l0 l1 l2 l3 l4 l5 t0 t1 t2 o0 xr xt gn gu gb ga lc lk ln lt ll lr tw tn tt oo a1 a2 A) ([.ref x0, .int a1, .int a2, .ref o0] : List Value).toArray s 3 18 A) (F0 m 16 ls [.long j2, .int 0, .ref o0]) := by
      intro H locs hP hD hS ls hl
      refine va_last hx hb hK hP hD hS 15 1 rfl rfl (by unfold vp_in; decide) dL_need_16 (fun H locs hP hD hS => ?_)
      have hP : va_P D vwCl (W_O cI cJ x0 g0 g1 g2 g3 g4 l0 l1 l2 l3 l4 l5 t0 t1 t2 o0 xr xt u1_0 u1_1 u1_2 u1_3 lc lk ln lt ll lr tw tn tt (vp_updL oo (0 : Int32).toNatClampNeg j2)) H := hP
      have hD : va_D A (W_O cI cJ x0 g0 g1 g2 g3 g4 l0 l1 l2 l3 l4 l5 t0 t1 t2 o0 xr xt u1_0 u1_1 u1_2 u1_3 lc lk ln lt ll lr tw tn tt (vp_updL oo (0 : Int32).toNatClampNeg j2)) := hD
      refine lv_goto (tgt := 28) hx hb dL_need_17 (by decide) ?_
      refine lv_iconst (v := 0) hx hb dL_need_28 (by decide) ?_
      exact W.iret (v := 0) hx hb hr (fun t ht hW => ⟨⟨0, (u1_0, u1_1, u1_2, u1_3, (vp_updL oo (0 : Int32).toNatClampNeg j2)), rfl, he, by rw [ht]; exact hP, va_K.moved hW.alike hK, hD⟩, hS.F ht⟩) hS.2.2 dL_need_29
    replace he := hJ2
    replace hp := hpJ2
    refine lv_if_eq (tgt := 15) hx hb dL_need_8 (by decide) (fun c3 => ?_) (fun c3 => ?_)
    · replace hp := hp.1 c3
      replace he := he.trans (if_pos c3)
      refine lv_lconst (v := 0) hx hb dL_need_15 rfl ?_
      subst he
      exact kont2 _ _ hP hD hS _ (lv_sub hl [] rfl)
    · replace hp := hp.2 c3
      replace he := he.trans (if_neg c3)
      refine lv_lconst (v := 1) hx hb dL_need_11 rfl ?_
      refine lv_goto (tgt := 16) hx hb dL_need_12 (by decide) ?_
      subst he
      exact kont2 _ _ hP hD hS _ (lv_sub hl [] rfl)
abbrev rm_L_release : Room := { frames := 8, cells := 2, slots := 12, locals := 153 }
abbrev Q_L_release (D : va_G) (cI : ClassId) (cJ : ClassId) (x0 g0 g1 g2 g3 g4 l0 l1 l2 l3 l4 l5 t0 t1 t2 o0 : Nat) (xr : Int32) (xt : Int32) (gn : AA) (gu : AA) (gb : AA) (ga : AA) (lc : Int32) (lk : AA) (ln : AA) (lt : AA) (ll : AA) (lr : AA) (tw : Int32) (tn : AA) (tt : AA) (oo : LA) (a1 a2 : Int32) (A : Nat → Prop) : Array Value → State → Outcome → State → Prop := va_Qi (S := AA × AA × AA × AA × LA) (fun r u => f_L_release gn gu gb ga oo a1 a2 = (r, u)) (fun u t => QW D [(cI, .int), (cJ, .long)] A (W_O cI cJ x0 g0 g1 g2 g3 g4 l0 l1 l2 l3 l4 l5 t0 t1 t2 o0 xr xt u.1 u.2.1 u.2.2.1 u.2.2.2.1 lc lk ln lt ll lr tw tn tt u.2.2.2.2) t) A
set_option maxHeartbeats 4000000 in
set_option maxRecDepth 100000 in
theorem c_L_release (l : Launch)  (D : va_G) (cI : ClassId) (cJ : ClassId) (x0 g0 g1 g2 g3 g4 l0 l1 l2 l3 l4 l5 t0 t1 t2 o0 : Nat) (xr : Int32) (xt : Int32) (gn : AA) (gu : AA) (gb : AA) (ga : AA) (lc : Int32) (lk : AA) (ln : AA) (lt : AA) (ll : AA) (lr : AA) (tw : Int32) (tn : AA) (tt : AA) (oo : LA) (sz : Nat) (a1 a2 : Int32) (hp : p_L_release gn gu gb ga a1 a2) (hst : l.stackTraces = false) : Met l yL_release wsL_release rm_L_release (va_Pc [.ref x0, .int a1, .int a2, .ref o0] (PX D [(cI, .int), (cJ, .long)] sz (W_O cI cJ x0 g0 g1 g2 g3 g4 l0 l1 l2 l3 l4 l5 t0 t1 t2 o0 xr xt gn gu gb ga lc lk ln lt ll lr tw tn tt oo))) (Q_L_release D cI cJ x0 g0 g1 g2 g3 g4 l0 l1 l2 l3 l4 l5 t0 t1 t2 o0 xr xt gn gu gb ga lc lk ln lt ll lr tw tn tt oo a1 a2 (va_A (W_O cI cJ x0 g0 g1 g2 g3 g4 l0 l1 l2 l3 l4 l5 t0 t1 t2 o0 xr xt gn gu gb ga lc lk ln lt ll lr tw tn tt oo) sz)) 2 12 (va_A (W_O cI cJ x0 g0 g1 g2 g3 g4 l0 l1 l2 l3 l4 l5 t0 t1 t2 o0 xr xt gn gu gb ga lc lk ln lt ll lr tw tn tt oo) sz) := by
  refine va_MetW (cc := cL_release) (maxL := 5) (ret := (some .int)) (hh := [(0, 17, 20, 13)]) (by decide) rfl ?_
  intro p e s m args below meth c s₁ B hml hv
  obtain ⟨rfl, ⟨hsz, hP, hK, hD0, hN⟩, hXB⟩ := hv
  have hx := B.exec
  have hb := B.bytes
  have hr := B.returns
  have hts := atoms_spec (ws := wsL_release) B.pre
  have hown : s.vm.findClass RL = some m.cls := findClass_of_methodNamed B.named
  have hlocks := B.notSynchronized
  have htab := vx_table (x := yL_release) B (hts (.codeWith yL_release cL_release 5 (some .int) [(0, 17, 20, 13)]) (by decide +kernel))
  subst hsz
  have hD := hD0.self (sz := s.heap.size)
  generalize hAe : va_A (W_O cI cJ x0 g0 g1 g2 g3 g4 l0 l1 l2 l3 l4 l5 t0 t1 t2 o0 xr xt gn gu gb ga lc lk ln lt ll lr tw tn tt oo) s.heap.size = A at hD hXB ⊢
  have hA : ∀ q : Nat, s.heap.size ≤ q → A q := fun q h => by rw [← hAe]; exact Or.inr h
  have hS : va_S A s.heap s.heap [] := va_S.rf
  have hl := lv_entry ([.ref x0, .int a1, .int a2, .ref o0]) (n := 5) (Nat.le_of_ble_eq_true rfl)
  rw [lg_entry_eq]
  generalize (lg_sl ([.ref x0, .int a1, .int a2, .ref o0]) ++ List.replicate (5 - (lg_sl ([.ref x0, .int a1, .int a2, .ref o0])).length) Slot.unset).toArray = ls at hl ⊢
  have hl : lv_has ls 5 [(0, .ref x0), (1, .int a1), (2, .int a2), (3, .ref o0)] := hl
  have he := f_L_release.eq_1 gn gu gb ga oo a1 a2
  replace hp := Eq.mp (p_L_release.eq_1 ..) hp
  refine lv_aload_n hx hb dL_release_0 rfl (lv_at hl 3 rfl) ?_
  refine lv_iconst (v := 0) hx hb dL_release_1 (by decide) ?_
  refine lv_aload_n hx hb dL_release_2 rfl (lv_at hl 0 rfl) ?_
  refine lv_iload_n hx hb dL_release_3 rfl (lv_at hl 1 rfl) ?_
  refine lv_iload_n hx hb dL_release_4 rfl (lv_at hl 2 rfl) ?_
  have hq1 := hp.1
  replace hp := hp.2
  refine k_xcalli (S := AA × AA × AA × AA) (px := fun E => f_X4_release gn gu gb ga a1 a2 = .inl E ∧ (E = eIO)) (wc := (W_X4 cI x0 g0 g1 g2 g3 g4 l0 l1 l2 l3 l4 l5 t0 t1 t2 xr xt gn gu gb ga lc lk ln lt ll lr tw tn tt)) (wr := [(o0, .inl (cJ, 1, .inr (.inl oo)))]) (w1 := fun u => (W_X4 cI x0 g0 g1 g2 g3 g4 l0 l1 l2 l3 l4 l5 t0 t1 t2 xr xt u.1 u.2.1 u.2.2.1 u.2.2.2 lc lk ln lt ll lr tw tn tt)) (fun u => (W_O cI cJ x0 g0 g1 g2 g3 g4 l0 l1 l2 l3 l4 l5 t0 t1 t2 o0 xr xt u.1 u.2.1 u.2.2.1 u.2.2.2 lc lk ln lt ll lr tw tn tt oo)) hP (hK.sub [0] rfl) hD hN hXB hS hA [0, 1, 2, 3, 4, 5, 6, 7, 8, 9, 10, 11, 12, 13, 14] [15] rfl rfl (by decide) (by decide) (by decide) [1, 2, 3, 4, 5, 6, 7, 8, 9, 10, 11, 12, 13, 14, 15, 0] (by decide) (fun _ => rfl) rfl (fun hg => vx_runV (As := [.int a1, .int a2]) (rest := [.int 0, .ref o0]) ⟨hx, hb, hml, hown, hts⟩ (c_X4_release l D cI x0 g0 g1 g2 g3 g4 l0 l1 l2 l3 l4 l5 t0 t1 t2 xr xt gn gu gb ga lc lk ln lt ll lr tw tn tt _ a1 a2 hq1 hst) (cwV 2 hts gL_release_X4_release rfl rfl rfl (by decide +kernel) ⟨Nat.le_of_ble_eq_true rfl, Nat.le_of_ble_eq_true rfl⟩) ⟨PX.blind, va_recv hK hP (ci := 4) (q0 := 0) rfl rfl, fun U hU hW => ⟨rfl, hg U hU hW⟩⟩ rfl rfl hl.1 rfl (lv_room (Nat.le_of_ble_eq_true rfl)) dL_release_5 ⟨Nat.le_of_ble_eq_true rfl, Nat.le_of_ble_eq_true rfl⟩) (fun E ce q9 H locs hw hP hD hS hc9 hv9 hcl9 => ?_) (fun r1 u H locs hw hP hD hS => ?_)
  · rw [hw.1] at he
    try dsimp only at he
    have hE := hw.2
    subst hE
    refine vx_catch (own := RL) (name := eIO) hown [] ⟨0, 17, 20, 13⟩ [] htab (fun z hz => absurd hz List.not_mem_nil) (by decide) (by decide) (hts (.classLink RL 13 eIO) (by decide +kernel)) (hXB.cast (w := .castable eIO eIO) (by decide +kernel)) hc9 hv9 hcl9 ?_
    refine lv_astore (lv' := [(4, .ref q9), (0, .ref x0), (1, .int a1), (2, .int a2), (3, .ref o0)]) hx hb dL_release_20 hl (by decide) rfl (fun ls hl => ?_)
    refine lv_iconst (v := 1) hx hb dL_release_22 (by decide) ?_
    exact W.iret (v := 1) hx hb hr (fun t ht hW => ⟨⟨1, (gn, gu, gb, ga, oo), rfl, he, by rw [ht]; exact hP, va_K.moved hW.alike hK, hD⟩, hS.F ht⟩) hS.2.2 dL_release_23
  · obtain ⟨u1_0, u1_1, u1_2, u1_3⟩ := u
    obtain ⟨hw, hb1⟩ := hw
    rw [hw] at he
    try dsimp only at he
    replace hp := hp r1 u1_0 u1_1 u1_2 u1_3 hw
    have hP : va_P D vwCl (W_O cI cJ x0 g0 g1 g2 g3 g4 l0 l1 l2 l3 l4 l5 t0 t1 t2 o0 xr xt u1_0 u1_1 u1_2 u1_3 lc lk ln lt ll lr tw tn tt oo) H := hP
    have hD : va_D A (W_O cI cJ x0 g0 g1 g2 g3 g4 l0 l1 l2 l3 l4 l5 t0 t1 t2 o0 xr xt u1_0 u1_1 u1_2 u1_3 lc lk ln lt ll lr tw tn tt oo) := hD
    obtain ⟨j2, hJ2⟩ : ∃ z : Int64, z = (if r1 = 0 then (0 : Int64) else (1 : Int64)) := ⟨_, rfl⟩
    rw [← hJ2] at he
    try dsimp only at he
    have hpJ2 := hp.1
    replace hp := hp.2 _  hJ2.symm
    have kont2 : ∀ (H : Heap) (locs : List Loc), va_P D vwCl (W_O cI cJ x0 g0 g1 g2 g3 g4 l0 l1 l2 l3 l4 l5 t0 t1 t2 o0 xr xt u1_0 u1_1 u1_2 u1_3 lc lk ln lt ll lr tw tn tt oo) H → va_D A (W_O cI cJ x0 g0 g1 g2 g3 g4 l0 l1 l2 l3 l4 l5 t0 t1 t2 o0 xr xt u1_0 u1_1 u1_2 u1_3 lc lk ln lt ll lr tw tn tt oo) → va_S A s.heap H locs → ∀ ls : Array Slot, lv_has ls 5 [] → W p l e (headSpec wsL_release rm_L_release).room s m ([.ref x0, .int a1, .int a2, .ref o0] : List Value).toArray below meth c H locs 2 12 (MQ below (Q_L_release D cI cJ x0 g0 g1 g2 g3 g4 l0 l1 l2 l3 l4 l5 t0 t1 t2 o0 xr xt gn gu gb ga lc lk ln lt ll lr tw tn tt oo a1 a2 A) ([.ref x0, .int a1, .int a2, .ref o0] : List Value).toArray s 2 12 A) (F0 m 16 ls [.long j2, .int 0, .ref o0]) := by
      intro H locs hP hD hS ls hl
      refine va_last hx hb hK hP hD hS 15 1 rfl rfl (by unfold vp_in; decide) dL_release_16 (fun H locs hP hD hS => ?_)
      have hP : va_P D vwCl (W_O cI cJ x0 g0 g1 g2 g3 g4 l0 l1 l2 l3 l4 l5 t0 t1 t2 o0 xr xt u1_0 u1_1 u1_2 u1_3 lc lk ln lt ll lr tw tn tt (vp_updL oo (0 : Int32).toNatClampNeg j2)) H := hP
      have hD : va_D A (W_O cI cJ x0 g0 g1 g2 g3 g4 l0 l1 l2 l3 l4 l5 t0 t1 t2 o0 xr xt u1_0 u1_1 u1_2 u1_3 lc lk ln lt ll lr tw tn tt (vp_updL oo (0 : Int32).toNatClampNeg j2)) := hD
      refine lv_goto (tgt := 24) hx hb dL_release_17 (by decide) ?_
      refine lv_iconst (v := 0) hx hb dL_release_24 (by decide) ?_
      exact W.iret (v := 0) hx hb hr (fun t ht hW => ⟨⟨0, (u1_0, u1_1, u1_2, u1_3, (vp_updL oo (0 : Int32).toNatClampNeg j2)), rfl, he, by rw [ht]; exact hP, va_K.moved hW.alike hK, hD⟩, hS.F ht⟩) hS.2.2 dL_release_25
    replace he := hJ2
    replace hp := hpJ2
    refine lv_if_eq (tgt := 15) hx hb dL_release_8 (by decide) (fun c3 => ?_) (fun c3 => ?_)
    · replace hp := hp.1 c3
      replace he := he.trans (if_pos c3)
      refine lv_lconst (v := 0) hx hb dL_release_15 rfl ?_
      subst he
      exact kont2 _ _ hP hD hS _ (lv_sub hl [] rfl)
    · replace hp := hp.2 c3
      replace he := he.trans (if_neg c3)
      refine lv_lconst (v := 1) hx hb dL_release_11 rfl ?_
      refine lv_goto (tgt := 16) hx hb dL_release_12 (by decide) ?_
      subst he
      exact kont2 _ _ hP hD hS _ (lv_sub hl [] rfl)
abbrev rm_L_needs : Room := { frames := 8, cells := 2, slots := 12, locals := 124 }
abbrev Q_L_needs (D : va_G) (cI : ClassId) (cJ : ClassId) (x0 g0 g1 g2 g3 g4 l0 l1 l2 l3 l4 l5 t0 t1 t2 o0 : Nat) (xr : Int32) (xt : Int32) (gn : AA) (gu : AA) (gb : AA) (ga : AA) (lc : Int32) (lk : AA) (ln : AA) (lt : AA) (ll : AA) (lr : AA) (tw : Int32) (tn : AA) (tt : AA) (oo : LA) (a1 a2 : Int32) (A : Nat → Prop) : Array Value → State → Outcome → State → Prop := va_Qi (S := LA) (fun r u => f_L_needs gn oo a1 a2 = (r, u)) (fun u t => QW D [(cI, .int), (cJ, .long)] A (W_O cI cJ x0 g0 g1 g2 g3 g4 l0 l1 l2 l3 l4 l5 t0 t1 t2 o0 xr xt gn gu gb ga lc lk ln lt ll lr tw tn tt u) t) A
set_option maxHeartbeats 4000000 in
set_option maxRecDepth 100000 in
theorem c_L_needs (l : Launch)  (D : va_G) (cI : ClassId) (cJ : ClassId) (x0 g0 g1 g2 g3 g4 l0 l1 l2 l3 l4 l5 t0 t1 t2 o0 : Nat) (xr : Int32) (xt : Int32) (gn : AA) (gu : AA) (gb : AA) (ga : AA) (lc : Int32) (lk : AA) (ln : AA) (lt : AA) (ll : AA) (lr : AA) (tw : Int32) (tn : AA) (tt : AA) (oo : LA) (sz : Nat) (a1 a2 : Int32) (hp : p_L_needs gn a1 a2) (hst : l.stackTraces = false) : Met l yL_needs wsL_needs rm_L_needs (va_Pc [.ref x0, .int a1, .int a2, .ref o0] (PX D [(cI, .int), (cJ, .long)] sz (W_O cI cJ x0 g0 g1 g2 g3 g4 l0 l1 l2 l3 l4 l5 t0 t1 t2 o0 xr xt gn gu gb ga lc lk ln lt ll lr tw tn tt oo))) (Q_L_needs D cI cJ x0 g0 g1 g2 g3 g4 l0 l1 l2 l3 l4 l5 t0 t1 t2 o0 xr xt gn gu gb ga lc lk ln lt ll lr tw tn tt oo a1 a2 (va_A (W_O cI cJ x0 g0 g1 g2 g3 g4 l0 l1 l2 l3 l4 l5 t0 t1 t2 o0 xr xt gn gu gb ga lc lk ln lt ll lr tw tn tt oo) sz)) 2 12 (va_A (W_O cI cJ x0 g0 g1 g2 g3 g4 l0 l1 l2 l3 l4 l5 t0 t1 t2 o0 xr xt gn gu gb ga lc lk ln lt ll lr tw tn tt oo) sz) := by
  refine va_MetW (cc := cL_needs) (maxL := 5) (ret := (some .int)) (hh := [(0, 17, 20, 13)]) (by decide) rfl ?_
  intro p e s m args below meth c s₁ B hml hv
  obtain ⟨rfl, ⟨hsz, hP, hK, hD0, hN⟩, hXB⟩ := hv
  have hx := B.exec
  have hb := B.bytes
  have hr := B.returns
  have hts := atoms_spec (ws := wsL_needs) B.pre
  have hown : s.vm.findClass RL = some m.cls := findClass_of_methodNamed B.named
  have hlocks := B.notSynchronized
  have htab := vx_table (x := yL_needs) B (hts (.codeWith yL_needs cL_needs 5 (some .int) [(0, 17, 20, 13)]) (by decide +kernel))
  subst hsz
  have hD := hD0.self (sz := s.heap.size)
  generalize hAe : va_A (W_O cI cJ x0 g0 g1 g2 g3 g4 l0 l1 l2 l3 l4 l5 t0 t1 t2 o0 xr xt gn gu gb ga lc lk ln lt ll lr tw tn tt oo) s.heap.size = A at hD hXB ⊢
  have hA : ∀ q : Nat, s.heap.size ≤ q → A q := fun q h => by rw [← hAe]; exact Or.inr h
  have hS : va_S A s.heap s.heap [] := va_S.rf
  have hl := lv_entry ([.ref x0, .int a1, .int a2, .ref o0]) (n := 5) (Nat.le_of_ble_eq_true rfl)
  rw [lg_entry_eq]
  generalize (lg_sl ([.ref x0, .int a1, .int a2, .ref o0]) ++ List.replicate (5 - (lg_sl ([.ref x0, .int a1, .int a2, .ref o0])).length) Slot.unset).toArray = ls at hl ⊢
  have hl : lv_has ls 5 [(0, .ref x0), (1, .int a1), (2, .int a2), (3, .ref o0)] := hl
  have he := f_L_needs.eq_1 gn oo a1 a2
  replace hp := Eq.mp (p_L_needs.eq_1 ..) hp
  refine lv_aload_n hx hb dL_needs_0 rfl (lv_at hl 3 rfl) ?_
  refine lv_iconst (v := 0) hx hb dL_needs_1 (by decide) ?_
  refine lv_aload_n hx hb dL_needs_2 rfl (lv_at hl 0 rfl) ?_
  refine lv_iload_n hx hb dL_needs_3 rfl (lv_at hl 1 rfl) ?_
  refine lv_iload_n hx hb dL_needs_4 rfl (lv_at hl 2 rfl) ?_
  have hq1 := hp.1
  replace hp := hp.2
  refine k_xcalli (S := Unit) (px := fun E => f_X4_needs gn a1 a2 = .inl E ∧ (E = eIO)) (wc := (W_X4 cI x0 g0 g1 g2 g3 g4 l0 l1 l2 l3 l4 l5 t0 t1 t2 xr xt gn gu gb ga lc lk ln lt ll lr tw tn tt)) (wr := [(o0, .inl (cJ, 1, .inr (.inl oo)))]) (w1 := fun u => (W_X4 cI x0 g0 g1 g2 g3 g4 l0 l1 l2 l3 l4 l5 t0 t1 t2 xr xt gn gu gb ga lc lk ln lt ll lr tw tn tt)) (fun u => (W_O cI cJ x0 g0 g1 g2 g3 g4 l0 l1 l2 l3 l4 l5 t0 t1 t2 o0 xr xt gn gu gb ga lc lk ln lt ll lr tw tn tt oo)) hP (hK.sub [0] rfl) hD hN hXB hS hA [0, 1, 2, 3, 4, 5, 6, 7, 8, 9, 10, 11, 12, 13, 14] [15] rfl rfl (by decide) (by decide) (by decide) [1, 2, 3, 4, 5, 6, 7, 8, 9, 10, 11, 12, 13, 14, 15, 0] (by decide) (fun _ => rfl) rfl (fun hg => vx_runV (As := [.int a1, .int a2]) (rest := [.int 0, .ref o0]) ⟨hx, hb, hml, hown, hts⟩ (c_X4_needs l D cI x0 g0 g1 g2 g3 g4 l0 l1 l2 l3 l4 l5 t0 t1 t2 xr xt gn gu gb ga lc lk ln lt ll lr tw tn tt _ a1 a2 hq1 hst) (cwV 2 hts gL_needs_X4_needs rfl rfl rfl (by decide +kernel) ⟨Nat.le_of_ble_eq_true rfl, Nat.le_of_ble_eq_true rfl⟩) ⟨PX.blind, va_recv hK hP (ci := 4) (q0 := 0) rfl rfl, fun U hU hW => ⟨rfl, hg U hU hW⟩⟩ rfl rfl hl.1 rfl (lv_room (Nat.le_of_ble_eq_true rfl)) dL_needs_5 ⟨Nat.le_of_ble_eq_true rfl, Nat.le_of_ble_eq_true rfl⟩) (fun E ce q9 H locs hw hP hD hS hc9 hv9 hcl9 => ?_) (fun r1 u H locs hw hP hD hS => ?_)
  · rw [hw.1] at he
    try dsimp only at he
    have hE := hw.2
    subst hE
    refine vx_catch (own := RL) (name := eIO) hown [] ⟨0, 17, 20, 13⟩ [] htab (fun z hz => absurd hz List.not_mem_nil) (by decide) (by decide) (hts (.classLink RL 13 eIO) (by decide +kernel)) (hXB.cast (w := .castable eIO eIO) (by decide +kernel)) hc9 hv9 hcl9 ?_
    refine lv_astore (lv' := [(4, .ref q9), (0, .ref x0), (1, .int a1), (2, .int a2), (3, .ref o0)]) hx hb dL_needs_20 hl (by decide) rfl (fun ls hl => ?_)
    refine lv_iconst (v := 1) hx hb dL_needs_22 (by decide) ?_
    exact W.iret (v := 1) hx hb hr (fun t ht hW => ⟨⟨1, oo, rfl, he, by rw [ht]; exact hP, va_K.moved hW.alike hK, hD⟩, hS.F ht⟩) hS.2.2 dL_needs_23
  · obtain ⟨hw, hb1⟩ := hw
    rw [hw] at he
    try dsimp only at he
    replace hp := hp r1 hw
    obtain ⟨j2, hJ2⟩ : ∃ z : Int64, z = (if r1 = 0 then (0 : Int64) else (1 : Int64)) := ⟨_, rfl⟩
    rw [← hJ2] at he
    try dsimp only at he
    have hpJ2 := hp.1
    replace hp := hp.2 _  hJ2.symm
    have kont2 : ∀ (H : Heap) (locs : List Loc), va_P D vwCl (W_O cI cJ x0 g0 g1 g2 g3 g4 l0 l1 l2 l3 l4 l5 t0 t1 t2 o0 xr xt gn gu gb ga lc lk ln lt ll lr tw tn tt oo) H → va_D A (W_O cI cJ x0 g0 g1 g2 g3 g4 l0 l1 l2 l3 l4 l5 t0 t1 t2 o0 xr xt gn gu gb ga lc lk ln lt ll lr tw tn tt oo) → va_S A s.heap H locs → ∀ ls : Array Slot, lv_has ls 5 [] → W p l e (headSpec wsL_needs rm_L_needs).room s m ([.ref x0, .int a1, .int a2, .ref o0] : List Value).toArray below meth c H locs 2 12 (MQ below (Q_L_needs D cI cJ x0 g0 g1 g2 g3 g4 l0 l1 l2 l3 l4 l5 t0 t1 t2 o0 xr xt gn gu gb ga lc lk ln lt ll lr tw tn tt oo a1 a2 A) ([.ref x0, .int a1, .int a2, .ref o0] : List Value).toArray s 2 12 A) (F0 m 16 ls [.long j2, .int 0, .ref o0]) := by
      intro H locs hP hD hS ls hl
      refine va_last hx hb hK hP hD hS 15 1 rfl rfl (by unfold vp_in; decide) dL_needs_16 (fun H locs hP hD hS => ?_)
      have hP : va_P D vwCl (W_O cI cJ x0 g0 g1 g2 g3 g4 l0 l1 l2 l3 l4 l5 t0 t1 t2 o0 xr xt gn gu gb ga lc lk ln lt ll lr tw tn tt (vp_updL oo (0 : Int32).toNatClampNeg j2)) H := hP
      have hD : va_D A (W_O cI cJ x0 g0 g1 g2 g3 g4 l0 l1 l2 l3 l4 l5 t0 t1 t2 o0 xr xt gn gu gb ga lc lk ln lt ll lr tw tn tt (vp_updL oo (0 : Int32).toNatClampNeg j2)) := hD
      refine lv_goto (tgt := 24) hx hb dL_needs_17 (by decide) ?_
      refine lv_iconst (v := 0) hx hb dL_needs_24 (by decide) ?_
      exact W.iret (v := 0) hx hb hr (fun t ht hW => ⟨⟨0, (vp_updL oo (0 : Int32).toNatClampNeg j2), rfl, he, by rw [ht]; exact hP, va_K.moved hW.alike hK, hD⟩, hS.F ht⟩) hS.2.2 dL_needs_25
    replace he := hJ2
    replace hp := hpJ2
    refine lv_if_eq (tgt := 15) hx hb dL_needs_8 (by decide) (fun c3 => ?_) (fun c3 => ?_)
    · replace hp := hp.1 c3
      replace he := he.trans (if_pos c3)
      refine lv_lconst (v := 0) hx hb dL_needs_15 rfl ?_
      subst he
      exact kont2 _ _ hP hD hS _ (lv_sub hl [] rfl)
    · replace hp := hp.2 c3
      replace he := he.trans (if_neg c3)
      refine lv_lconst (v := 1) hx hb dL_needs_11 rfl ?_
      refine lv_goto (tgt := 16) hx hb dL_needs_12 (by decide) ?_
      subst he
      exact kont2 _ _ hP hD hS _ (lv_sub hl [] rfl)
abbrev rm_L_dependsOn : Room := { frames := 8, cells := 2, slots := 12, locals := 124 }
abbrev Q_L_dependsOn (D : va_G) (cI : ClassId) (cJ : ClassId) (x0 g0 g1 g2 g3 g4 l0 l1 l2 l3 l4 l5 t0 t1 t2 o0 : Nat) (xr : Int32) (xt : Int32) (gn : AA) (gu : AA) (gb : AA) (ga : AA) (lc : Int32) (lk : AA) (ln : AA) (lt : AA) (ll : AA) (lr : AA) (tw : Int32) (tn : AA) (tt : AA) (oo : LA) (a1 a2 : Int32) (A : Nat → Prop) : Array Value → State → Outcome → State → Prop := va_Qi (S := LA) (fun r u => f_L_dependsOn gb oo a1 a2 = (r, u)) (fun u t => QW D [(cI, .int), (cJ, .long)] A (W_O cI cJ x0 g0 g1 g2 g3 g4 l0 l1 l2 l3 l4 l5 t0 t1 t2 o0 xr xt gn gu gb ga lc lk ln lt ll lr tw tn tt u) t) A
set_option maxHeartbeats 4000000 in
set_option maxRecDepth 100000 in
theorem c_L_dependsOn (l : Launch)  (D : va_G) (cI : ClassId) (cJ : ClassId) (x0 g0 g1 g2 g3 g4 l0 l1 l2 l3 l4 l5 t0 t1 t2 o0 : Nat) (xr : Int32) (xt : Int32) (gn : AA) (gu : AA) (gb : AA) (ga : AA) (lc : Int32) (lk : AA) (ln : AA) (lt : AA) (ll : AA) (lr : AA) (tw : Int32) (tn : AA) (tt : AA) (oo : LA) (sz : Nat) (a1 a2 : Int32) (hp : p_L_dependsOn gb a1 a2) (hst : l.stackTraces = false) : Met l yL_dependsOn wsL_dependsOn rm_L_dependsOn (va_Pc [.ref x0, .int a1, .int a2, .ref o0] (PX D [(cI, .int), (cJ, .long)] sz (W_O cI cJ x0 g0 g1 g2 g3 g4 l0 l1 l2 l3 l4 l5 t0 t1 t2 o0 xr xt gn gu gb ga lc lk ln lt ll lr tw tn tt oo))) (Q_L_dependsOn D cI cJ x0 g0 g1 g2 g3 g4 l0 l1 l2 l3 l4 l5 t0 t1 t2 o0 xr xt gn gu gb ga lc lk ln lt ll lr tw tn tt oo a1 a2 (va_A (W_O cI cJ x0 g0 g1 g2 g3 g4 l0 l1 l2 l3 l4 l5 t0 t1 t2 o0 xr xt gn gu gb ga lc lk ln lt ll lr tw tn tt oo) sz)) 2 12 (va_A (W_O cI cJ x0 g0 g1 g2 g3 g4 l0 l1 l2 l3 l4 l5 t0 t1 t2 o0 xr xt gn gu gb ga lc lk ln lt ll lr tw tn tt oo) sz) := by
  refine va_MetW (cc := cL_dependsOn) (maxL := 5) (ret := (some .int)) (hh := [(0, 17, 20, 13)]) (by decide) rfl ?_
  intro p e s m args below meth c s₁ B hml hv
  obtain ⟨rfl, ⟨hsz, hP, hK, hD0, hN⟩, hXB⟩ := hv
  have hx := B.exec
  have hb := B.bytes
  have hr := B.returns
  have hts := atoms_spec (ws := wsL_dependsOn) B.pre
  have hown : s.vm.findClass RL = some m.cls := findClass_of_methodNamed B.named
  have hlocks := B.notSynchronized
  have htab := vx_table (x := yL_dependsOn) B (hts (.codeWith yL_dependsOn cL_dependsOn 5 (some .int) [(0, 17, 20, 13)]) (by decide +kernel))
  subst hsz
  have hD := hD0.self (sz := s.heap.size)
  generalize hAe : va_A (W_O cI cJ x0 g0 g1 g2 g3 g4 l0 l1 l2 l3 l4 l5 t0 t1 t2 o0 xr xt gn gu gb ga lc lk ln lt ll lr tw tn tt oo) s.heap.size = A at hD hXB ⊢
  have hA : ∀ q : Nat, s.heap.size ≤ q → A q := fun q h => by rw [← hAe]; exact Or.inr h
  have hS : va_S A s.heap s.heap [] := va_S.rf
  have hl := lv_entry ([.ref x0, .int a1, .int a2, .ref o0]) (n := 5) (Nat.le_of_ble_eq_true rfl)
  rw [lg_entry_eq]
  generalize (lg_sl ([.ref x0, .int a1, .int a2, .ref o0]) ++ List.replicate (5 - (lg_sl ([.ref x0, .int a1, .int a2, .ref o0])).length) Slot.unset).toArray = ls at hl ⊢
  have hl : lv_has ls 5 [(0, .ref x0), (1, .int a1), (2, .int a2), (3, .ref o0)] := hl
  have he := f_L_dependsOn.eq_1 gb oo a1 a2
  replace hp := Eq.mp (p_L_dependsOn.eq_1 ..) hp
  refine lv_aload_n hx hb dL_dependsOn_0 rfl (lv_at hl 3 rfl) ?_
  refine lv_iconst (v := 0) hx hb dL_dependsOn_1 (by decide) ?_
  refine lv_aload_n hx hb dL_dependsOn_2 rfl (lv_at hl 0 rfl) ?_
  refine lv_iload_n hx hb dL_dependsOn_3 rfl (lv_at hl 1 rfl) ?_
  refine lv_iload_n hx hb dL_dependsOn_4 rfl (lv_at hl 2 rfl) ?_
  have hq1 := hp.1
  replace hp := hp.2
  refine k_xcalli (S := Unit) (px := fun E => f_X4_dependsOn gb a1 a2 = .inl E ∧ (E = eIO)) (wc := (W_X4 cI x0 g0 g1 g2 g3 g4 l0 l1 l2 l3 l4 l5 t0 t1 t2 xr xt gn gu gb ga lc lk ln lt ll lr tw tn tt)) (wr := [(o0, .inl (cJ, 1, .inr (.inl oo)))]) (w1 := fun u => (W_X4 cI x0 g0 g1 g2 g3 g4 l0 l1 l2 l3 l4 l5 t0 t1 t2 xr xt gn gu gb ga lc lk ln lt ll lr tw tn tt)) (fun u => (W_O cI cJ x0 g0 g1 g2 g3 g4 l0 l1 l2 l3 l4 l5 t0 t1 t2 o0 xr xt gn gu gb ga lc lk ln lt ll lr tw tn tt oo)) hP (hK.sub [0] rfl) hD hN hXB hS hA [0, 1, 2, 3, 4, 5, 6, 7, 8, 9, 10, 11, 12, 13, 14] [15] rfl rfl (by decide) (by decide) (by decide) [1, 2, 3, 4, 5, 6, 7, 8, 9, 10, 11, 12, 13, 14, 15, 0] (by decide) (fun _ => rfl) rfl (fun hg => vx_runV (As := [.int a1, .int a2]) (rest := [.int 0, .ref o0]) ⟨hx, hb, hml, hown, hts⟩ (c_X4_dependsOn l D cI x0 g0 g1 g2 g3 g4 l0 l1 l2 l3 l4 l5 t0 t1 t2 xr xt gn gu gb ga lc lk ln lt ll lr tw tn tt _ a1 a2 hq1 hst) (cwV 2 hts gL_dependsOn_X4_dependsOn rfl rfl rfl (by decide +kernel) ⟨Nat.le_of_ble_eq_true rfl, Nat.le_of_ble_eq_true rfl⟩) ⟨PX.blind, va_recv hK hP (ci := 4) (q0 := 0) rfl rfl, fun U hU hW => ⟨rfl, hg U hU hW⟩⟩ rfl rfl hl.1 rfl (lv_room (Nat.le_of_ble_eq_true rfl)) dL_dependsOn_5 ⟨Nat.le_of_ble_eq_true rfl, Nat.le_of_ble_eq_true rfl⟩) (fun E ce q9 H locs hw hP hD hS hc9 hv9 hcl9 => ?_) (fun r1 u H locs hw hP hD hS => ?_)
  · rw [hw.1] at he
    try dsimp only at he
    have hE := hw.2
    subst hE
    refine vx_catch (own := RL) (name := eIO) hown [] ⟨0, 17, 20, 13⟩ [] htab (fun z hz => absurd hz List.not_mem_nil) (by decide) (by decide) (hts (.classLink RL 13 eIO) (by decide +kernel)) (hXB.cast (w := .castable eIO eIO) (by decide +kernel)) hc9 hv9 hcl9 ?_
    refine lv_astore (lv' := [(4, .ref q9), (0, .ref x0), (1, .int a1), (2, .int a2), (3, .ref o0)]) hx hb dL_dependsOn_20 hl (by decide) rfl (fun ls hl => ?_)
    refine lv_iconst (v := 1) hx hb dL_dependsOn_22 (by decide) ?_
    exact W.iret (v := 1) hx hb hr (fun t ht hW => ⟨⟨1, oo, rfl, he, by rw [ht]; exact hP, va_K.moved hW.alike hK, hD⟩, hS.F ht⟩) hS.2.2 dL_dependsOn_23
  · obtain ⟨hw, hb1⟩ := hw
    rw [hw] at he
    try dsimp only at he
    replace hp := hp r1 hw
    obtain ⟨j2, hJ2⟩ : ∃ z : Int64, z = (if r1 = 0 then (0 : Int64) else (1 : Int64)) := ⟨_, rfl⟩
    rw [← hJ2] at he
    try dsimp only at he
    have hpJ2 := hp.1
    replace hp := hp.2 _  hJ2.symm
    have kont2 : ∀ (H : Heap) (locs : List Loc), va_P D vwCl (W_O cI cJ x0 g0 g1 g2 g3 g4 l0 l1 l2 l3 l4 l5 t0 t1 t2 o0 xr xt gn gu gb ga lc lk ln lt ll lr tw tn tt oo) H → va_D A (W_O cI cJ x0 g0 g1 g2 g3 g4 l0 l1 l2 l3 l4 l5 t0 t1 t2 o0 xr xt gn gu gb ga lc lk ln lt ll lr tw tn tt oo) → va_S A s.heap H locs → ∀ ls : Array Slot, lv_has ls 5 [] → W p l e (headSpec wsL_dependsOn rm_L_dependsOn).room s m ([.ref x0, .int a1, .int a2, .ref o0] : List Value).toArray below meth c H locs 2 12 (MQ below (Q_L_dependsOn D cI cJ x0 g0 g1 g2 g3 g4 l0 l1 l2 l3 l4 l5 t0 t1 t2 o0 xr xt gn gu gb ga lc lk ln lt ll lr tw tn tt oo a1 a2 A) ([.ref x0, .int a1, .int a2, .ref o0] : List Value).toArray s 2 12 A) (F0 m 16 ls [.long j2, .int 0, .ref o0]) := by
      intro H locs hP hD hS ls hl
      refine va_last hx hb hK hP hD hS 15 1 rfl rfl (by unfold vp_in; decide) dL_dependsOn_16 (fun H locs hP hD hS => ?_)
      have hP : va_P D vwCl (W_O cI cJ x0 g0 g1 g2 g3 g4 l0 l1 l2 l3 l4 l5 t0 t1 t2 o0 xr xt gn gu gb ga lc lk ln lt ll lr tw tn tt (vp_updL oo (0 : Int32).toNatClampNeg j2)) H := hP
      have hD : va_D A (W_O cI cJ x0 g0 g1 g2 g3 g4 l0 l1 l2 l3 l4 l5 t0 t1 t2 o0 xr xt gn gu gb ga lc lk ln lt ll lr tw tn tt (vp_updL oo (0 : Int32).toNatClampNeg j2)) := hD
      refine lv_goto (tgt := 24) hx hb dL_dependsOn_17 (by decide) ?_
      refine lv_iconst (v := 0) hx hb dL_dependsOn_24 (by decide) ?_
      exact W.iret (v := 0) hx hb hr (fun t ht hW => ⟨⟨0, (vp_updL oo (0 : Int32).toNatClampNeg j2), rfl, he, by rw [ht]; exact hP, va_K.moved hW.alike hK, hD⟩, hS.F ht⟩) hS.2.2 dL_dependsOn_25
    replace he := hJ2
    replace hp := hpJ2
    refine lv_if_eq (tgt := 15) hx hb dL_dependsOn_8 (by decide) (fun c3 => ?_) (fun c3 => ?_)
    · replace hp := hp.1 c3
      replace he := he.trans (if_pos c3)
      refine lv_lconst (v := 0) hx hb dL_dependsOn_15 rfl ?_
      subst he
      exact kont2 _ _ hP hD hS _ (lv_sub hl [] rfl)
    · replace hp := hp.2 c3
      replace he := he.trans (if_neg c3)
      refine lv_lconst (v := 1) hx hb dL_dependsOn_11 rfl ?_
      refine lv_goto (tgt := 16) hx hb dL_dependsOn_12 (by decide) ?_
      subst he
      exact kont2 _ _ hP hD hS _ (lv_sub hl [] rfl)
abbrev rm_L_height : Room := { frames := 8, cells := 1, slots := 6, locals := 123 }
abbrev Q_L_height (D : va_G) (cI : ClassId) (cJ : ClassId) (x0 g0 g1 g2 g3 g4 l0 l1 l2 l3 l4 l5 t0 t1 t2 o0 : Nat) (xr : Int32) (xt : Int32) (gn : AA) (gu : AA) (gb : AA) (ga : AA) (lc : Int32) (lk : AA) (ln : AA) (lt : AA) (ll : AA) (lr : AA) (tw : Int32) (tn : AA) (tt : AA) (oo : LA) (a1 : Int32) (A : Nat → Prop) : Array Value → State → Outcome → State → Prop := va_Qi (S := LA) (fun r u => f_L_height gn oo a1 = (r, u)) (fun u t => QW D [(cI, .int), (cJ, .long)] A (W_O cI cJ x0 g0 g1 g2 g3 g4 l0 l1 l2 l3 l4 l5 t0 t1 t2 o0 xr xt gn gu gb ga lc lk ln lt ll lr tw tn tt u) t) A
set_option maxHeartbeats 4000000 in
set_option maxRecDepth 100000 in
theorem c_L_height (l : Launch)  (D : va_G) (cI : ClassId) (cJ : ClassId) (x0 g0 g1 g2 g3 g4 l0 l1 l2 l3 l4 l5 t0 t1 t2 o0 : Nat) (xr : Int32) (xt : Int32) (gn : AA) (gu : AA) (gb : AA) (ga : AA) (lc : Int32) (lk : AA) (ln : AA) (lt : AA) (ll : AA) (lr : AA) (tw : Int32) (tn : AA) (tt : AA) (oo : LA) (sz : Nat) (a1 : Int32) (hp : p_L_height gn a1) (hst : l.stackTraces = false) : Met l yL_height wsL_height rm_L_height (va_Pc [.ref x0, .int a1, .ref o0] (PX D [(cI, .int), (cJ, .long)] sz (W_O cI cJ x0 g0 g1 g2 g3 g4 l0 l1 l2 l3 l4 l5 t0 t1 t2 o0 xr xt gn gu gb ga lc lk ln lt ll lr tw tn tt oo))) (Q_L_height D cI cJ x0 g0 g1 g2 g3 g4 l0 l1 l2 l3 l4 l5 t0 t1 t2 o0 xr xt gn gu gb ga lc lk ln lt ll lr tw tn tt oo a1 (va_A (W_O cI cJ x0 g0 g1 g2 g3 g4 l0 l1 l2 l3 l4 l5 t0 t1 t2 o0 xr xt gn gu gb ga lc lk ln lt ll lr tw tn tt oo) sz)) 1 6 (va_A (W_O cI cJ x0 g0 g1 g2 g3 g4 l0 l1 l2 l3 l4 l5 t0 t1 t2 o0 xr xt gn gu gb ga lc lk ln lt ll lr tw tn tt oo) sz) := by
  refine va_MetW (cc := cL_height) (maxL := 4) (ret := (some .int)) (hh := [(0, 9, 12, 13)]) (by decide) rfl ?_
  intro p e s m args below meth c s₁ B hml hv
  obtain ⟨rfl, ⟨hsz, hP, hK, hD0, hN⟩, hXB⟩ := hv
  have hx := B.exec
  have hb := B.bytes
  have hr := B.returns
  have hts := atoms_spec (ws := wsL_height) B.pre
  have hown : s.vm.findClass RL = some m.cls := findClass_of_methodNamed B.named
  have hlocks := B.notSynchronized
  have htab := vx_table (x := yL_height) B (hts (.codeWith yL_height cL_height 4 (some .int) [(0, 9, 12, 13)]) (by decide +kernel))
  subst hsz
  have hD := hD0.self (sz := s.heap.size)
  generalize hAe : va_A (W_O cI cJ x0 g0 g1 g2 g3 g4 l0 l1 l2 l3 l4 l5 t0 t1 t2 o0 xr xt gn gu gb ga lc lk ln lt ll lr tw tn tt oo) s.heap.size = A at hD hXB ⊢
  have hA : ∀ q : Nat, s.heap.size ≤ q → A q := fun q h => by rw [← hAe]; exact Or.inr h
  have hS : va_S A s.heap s.heap [] := va_S.rf
  have hl := lv_entry ([.ref x0, .int a1, .ref o0]) (n := 4) (Nat.le_of_ble_eq_true rfl)
  rw [lg_entry_eq]
  generalize (lg_sl ([.ref x0, .int a1, .ref o0]) ++ List.replicate (4 - (lg_sl ([.ref x0, .int a1, .ref o0])).length) Slot.unset).toArray = ls at hl ⊢
  have hl : lv_has ls 4 [(0, .ref x0), (1, .int a1), (2, .ref o0)] := hl
  have he := f_L_height.eq_1 gn oo a1
  replace hp := Eq.mp (p_L_height.eq_1 ..) hp
  refine lv_aload_n hx hb dL_height_0 rfl (lv_at hl 2 rfl) ?_
  refine lv_iconst (v := 0) hx hb dL_height_1 (by decide) ?_
  refine lv_aload_n hx hb dL_height_2 rfl (lv_at hl 0 rfl) ?_
  refine lv_iload_n hx hb dL_height_3 rfl (lv_at hl 1 rfl) ?_
  have hq1 := hp.1
  replace hp := hp.2
  refine k_xcalli (S := Unit) (px := fun E => f_X4_height gn a1 = .inl E ∧ (E = eIO)) (wc := (W_X4 cI x0 g0 g1 g2 g3 g4 l0 l1 l2 l3 l4 l5 t0 t1 t2 xr xt gn gu gb ga lc lk ln lt ll lr tw tn tt)) (wr := [(o0, .inl (cJ, 1, .inr (.inl oo)))]) (w1 := fun u => (W_X4 cI x0 g0 g1 g2 g3 g4 l0 l1 l2 l3 l4 l5 t0 t1 t2 xr xt gn gu gb ga lc lk ln lt ll lr tw tn tt)) (fun u => (W_O cI cJ x0 g0 g1 g2 g3 g4 l0 l1 l2 l3 l4 l5 t0 t1 t2 o0 xr xt gn gu gb ga lc lk ln lt ll lr tw tn tt oo)) hP (hK.sub [0] rfl) hD hN hXB hS hA [0, 1, 2, 3, 4, 5, 6, 7, 8, 9, 10, 11, 12, 13, 14] [15] rfl rfl (by decide) (by decide) (by decide) [1, 2, 3, 4, 5, 6, 7, 8, 9, 10, 11, 12, 13, 14, 15, 0] (by decide) (fun _ => rfl) rfl (fun hg => vx_runV (As := [.int a1]) (rest := [.int 0, .ref o0]) ⟨hx, hb, hml, hown, hts⟩ (c_X4_height l D cI x0 g0 g1 g2 g3 g4 l0 l1 l2 l3 l4 l5 t0 t1 t2 xr xt gn gu gb ga lc lk ln lt ll lr tw tn tt _ a1 hq1 hst) (cwV 1 hts gL_height_X4_height rfl rfl rfl (by decide +kernel) ⟨Nat.le_of_ble_eq_true rfl, Nat.le_of_ble_eq_true rfl⟩) ⟨PX.blind, va_recv hK hP (ci := 4) (q0 := 0) rfl rfl, fun U hU hW => ⟨rfl, hg U hU hW⟩⟩ rfl rfl hl.1 rfl (lv_room (Nat.le_of_ble_eq_true rfl)) dL_height_4 ⟨Nat.le_of_ble_eq_true rfl, Nat.le_of_ble_eq_true rfl⟩) (fun E ce q9 H locs hw hP hD hS hc9 hv9 hcl9 => ?_) (fun r1 u H locs hw hP hD hS => ?_)
  · rw [hw.1] at he
    try dsimp only at he
    have hE := hw.2
    subst hE
    refine vx_catch (own := RL) (name := eIO) hown [] ⟨0, 9, 12, 13⟩ [] htab (fun z hz => absurd hz List.not_mem_nil) (by decide) (by decide) (hts (.classLink RL 13 eIO) (by decide +kernel)) (hXB.cast (w := .castable eIO eIO) (by decide +kernel)) hc9 hv9 hcl9 ?_
    refine lv_astore_n (lv' := [(3, .ref q9), (0, .ref x0), (1, .int a1), (2, .ref o0)]) hx hb dL_height_12 rfl hl (by decide) rfl (fun ls hl => ?_)
    refine lv_iconst (v := 1) hx hb dL_height_13 (by decide) ?_
    exact W.iret (v := 1) hx hb hr (fun t ht hW => ⟨⟨1, oo, rfl, he, by rw [ht]; exact hP, va_K.moved hW.alike hK, hD⟩, hS.F ht⟩) hS.2.2 dL_height_14
  · rw [hw] at he
    try dsimp only at he
    replace hp := hp r1 hw
    refine lv_i2l (v := (r1).toInt64) hx hb dL_height_7 rfl ?_
    refine va_last hx hb hK hP hD hS 15 1 rfl rfl (by unfold vp_in; decide) dL_height_8 (fun H locs hP hD hS => ?_)
    have hP : va_P D vwCl (W_O cI cJ x0 g0 g1 g2 g3 g4 l0 l1 l2 l3 l4 l5 t0 t1 t2 o0 xr xt gn gu gb ga lc lk ln lt ll lr tw tn tt (vp_updL oo (0 : Int32).toNatClampNeg ((r1).toInt64))) H := hP
    have hD : va_D A (W_O cI cJ x0 g0 g1 g2 g3 g4 l0 l1 l2 l3 l4 l5 t0 t1 t2 o0 xr xt gn gu gb ga lc lk ln lt ll lr tw tn tt (vp_updL oo (0 : Int32).toNatClampNeg ((r1).toInt64))) := hD
    refine lv_goto (tgt := 15) hx hb dL_height_9 (by decide) ?_
    refine lv_iconst (v := 0) hx hb dL_height_15 (by decide) ?_
    exact W.iret (v := 0) hx hb hr (fun t ht hW => ⟨⟨0, (vp_updL oo (0 : Int32).toNatClampNeg ((r1).toInt64)), rfl, he, by rw [ht]; exact hP, va_K.moved hW.alike hK, hD⟩, hS.F ht⟩) hS.2.2 dL_height_16
abbrev rm_L_tick : Room := { frames := 8, cells := 1, slots := 6, locals := 124 }
abbrev Q_L_tick (D : va_G) (cI : ClassId) (cJ : ClassId) (x0 g0 g1 g2 g3 g4 l0 l1 l2 l3 l4 l5 t0 t1 t2 o0 : Nat) (xr : Int32) (xt : Int32) (gn : AA) (gu : AA) (gb : AA) (ga : AA) (lc : Int32) (lk : AA) (ln : AA) (lt : AA) (ll : AA) (lr : AA) (tw : Int32) (tn : AA) (tt : AA) (oo : LA) (a1 : Int32) (A : Nat → Prop) : Array Value → State → Outcome → State → Prop := va_Qi (S := Int32 × LA) (fun r u => f_L_tick xt oo a1 = (r, u)) (fun u t => QW D [(cI, .int), (cJ, .long)] A (W_O cI cJ x0 g0 g1 g2 g3 g4 l0 l1 l2 l3 l4 l5 t0 t1 t2 o0 xr u.1 gn gu gb ga lc lk ln lt ll lr tw tn tt u.2) t) A
set_option maxHeartbeats 4000000 in
set_option maxRecDepth 100000 in
theorem c_L_tick (l : Launch)  (D : va_G) (cI : ClassId) (cJ : ClassId) (x0 g0 g1 g2 g3 g4 l0 l1 l2 l3 l4 l5 t0 t1 t2 o0 : Nat) (xr : Int32) (xt : Int32) (gn : AA) (gu : AA) (gb : AA) (ga : AA) (lc : Int32) (lk : AA) (ln : AA) (lt : AA) (ll : AA) (lr : AA) (tw : Int32) (tn : AA) (tt : AA) (oo : LA) (sz : Nat) (a1 : Int32) (hst : l.stackTraces = false) : Met l yL_tick wsL_tick rm_L_tick (va_Pc [.ref x0, .int a1, .ref o0] (PX D [(cI, .int), (cJ, .long)] sz (W_O cI cJ x0 g0 g1 g2 g3 g4 l0 l1 l2 l3 l4 l5 t0 t1 t2 o0 xr xt gn gu gb ga lc lk ln lt ll lr tw tn tt oo))) (Q_L_tick D cI cJ x0 g0 g1 g2 g3 g4 l0 l1 l2 l3 l4 l5 t0 t1 t2 o0 xr xt gn gu gb ga lc lk ln lt ll lr tw tn tt oo a1 (va_A (W_O cI cJ x0 g0 g1 g2 g3 g4 l0 l1 l2 l3 l4 l5 t0 t1 t2 o0 xr xt gn gu gb ga lc lk ln lt ll lr tw tn tt oo) sz)) 1 6 (va_A (W_O cI cJ x0 g0 g1 g2 g3 g4 l0 l1 l2 l3 l4 l5 t0 t1 t2 o0 xr xt gn gu gb ga lc lk ln lt ll lr tw tn tt oo) sz) := by
  refine va_MetW (cc := cL_tick) (maxL := 4) (ret := (some .int)) (hh := [(0, 9, 12, 15)]) (by decide) rfl ?_
  intro p e s m args below meth c s₁ B hml hv
  obtain ⟨rfl, ⟨hsz, hP, hK, hD0, hN⟩, hXB⟩ := hv
  have hx := B.exec
  have hb := B.bytes
  have hr := B.returns
  have hts := atoms_spec (ws := wsL_tick) B.pre
  have hown : s.vm.findClass RL = some m.cls := findClass_of_methodNamed B.named
  have hlocks := B.notSynchronized
  have htab := vx_table (x := yL_tick) B (hts (.codeWith yL_tick cL_tick 4 (some .int) [(0, 9, 12, 15)]) (by decide +kernel))
  subst hsz
  have hD := hD0.self (sz := s.heap.size)
  generalize hAe : va_A (W_O cI cJ x0 g0 g1 g2 g3 g4 l0 l1 l2 l3 l4 l5 t0 t1 t2 o0 xr xt gn gu gb ga lc lk ln lt ll lr tw tn tt oo) s.heap.size = A at hD hXB ⊢
  have hA : ∀ q : Nat, s.heap.size ≤ q → A q := fun q h => by rw [← hAe]; exact Or.inr h
  have hS : va_S A s.heap s.heap [] := va_S.rf
  have hl := lv_entry ([.ref x0, .int a1, .ref o0]) (n := 4) (Nat.le_of_ble_eq_true rfl)
  rw [lg_entry_eq]
  generalize (lg_sl ([.ref x0, .int a1, .ref o0]) ++ List.replicate (4 - (lg_sl ([.ref x0, .int a1, .ref o0])).length) Slot.unset).toArray = ls at hl ⊢
  have hl : lv_has ls 4 [(0, .ref x0), (1, .int a1), (2, .ref o0)] := hl
  have he := f_L_tick.eq_1 xt oo a1
  refine lv_aload_n hx hb dL_tick_0 rfl (lv_at hl 2 rfl) ?_
  refine lv_iconst (v := 0) hx hb dL_tick_1 (by decide) ?_
  refine lv_aload_n hx hb dL_tick_2 rfl (lv_at hl 0 rfl) ?_
  refine lv_iload_n hx hb dL_tick_3 rfl (lv_at hl 1 rfl) ?_
  refine k_xcalli (S := Int32) (px := fun E => f_X4_tick xt a1 = .inl E ∧ (E = eIA)) (wc := (W_X4 cI x0 g0 g1 g2 g3 g4 l0 l1 l2 l3 l4 l5 t0 t1 t2 xr xt gn gu gb ga lc lk ln lt ll lr tw tn tt)) (wr := [(o0, .inl (cJ, 1, .inr (.inl oo)))]) (w1 := fun u => (W_X4 cI x0 g0 g1 g2 g3 g4 l0 l1 l2 l3 l4 l5 t0 t1 t2 xr u gn gu gb ga lc lk ln lt ll lr tw tn tt)) (fun u => (W_O cI cJ x0 g0 g1 g2 g3 g4 l0 l1 l2 l3 l4 l5 t0 t1 t2 o0 xr u gn gu gb ga lc lk ln lt ll lr tw tn tt oo)) hP (hK.sub [0] rfl) hD hN hXB hS hA [0, 1, 2, 3, 4, 5, 6, 7, 8, 9, 10, 11, 12, 13, 14] [15] rfl rfl (by decide) (by decide) (by decide) [1, 2, 3, 4, 5, 6, 7, 8, 9, 10, 11, 12, 13, 14, 15, 0] (by decide) (fun _ => rfl) rfl (fun hg => vx_runV (As := [.int a1]) (rest := [.int 0, .ref o0]) ⟨hx, hb, hml, hown, hts⟩ (c_X4_tick l D cI x0 g0 g1 g2 g3 g4 l0 l1 l2 l3 l4 l5 t0 t1 t2 xr xt gn gu gb ga lc lk ln lt ll lr tw tn tt _ a1 hst) (cwV 1 hts gL_tick_X4_tick rfl rfl rfl (by decide +kernel) ⟨Nat.le_of_ble_eq_true rfl, Nat.le_of_ble_eq_true rfl⟩) ⟨PX.blind, va_recv hK hP (ci := 4) (q0 := 0) rfl rfl, fun U hU hW => ⟨rfl, hg U hU hW⟩⟩ rfl rfl hl.1 rfl (lv_room (Nat.le_of_ble_eq_true rfl)) dL_tick_4 ⟨Nat.le_of_ble_eq_true rfl, Nat.le_of_ble_eq_true rfl⟩) (fun E ce q9 H locs hw hP hD hS hc9 hv9 hcl9 => ?_) (fun r1 u H locs hw hP hD hS => ?_)
  · rw [hw.1] at he
    try dsimp only at he
    have hE := hw.2
    subst hE
    refine vx_catch (own := RL) (name := eIA) hown [] ⟨0, 9, 12, 15⟩ [] htab (fun z hz => absurd hz List.not_mem_nil) (by decide) (by decide) (hts (.classLink RL 15 eIA) (by decide +kernel)) (hXB.cast (w := .castable eIA eIA) (by decide +kernel)) hc9 hv9 hcl9 ?_
    refine lv_astore_n (lv' := [(3, .ref q9), (0, .ref x0), (1, .int a1), (2, .ref o0)]) hx hb dL_tick_12 rfl hl (by decide) rfl (fun ls hl => ?_)
    refine lv_iconst (v := 1) hx hb dL_tick_13 (by decide) ?_
    exact W.iret (v := 1) hx hb hr (fun t ht hW => ⟨⟨1, (xt, oo), rfl, he, by rw [ht]; exact hP, va_K.moved hW.alike hK, hD⟩, hS.F ht⟩) hS.2.2 dL_tick_14
  · obtain ⟨u1_0, rfl⟩ : ∃ z, z = u := ⟨_, rfl⟩
    rw [hw] at he
    try dsimp only at he
    have hP : va_P D vwCl (W_O cI cJ x0 g0 g1 g2 g3 g4 l0 l1 l2 l3 l4 l5 t0 t1 t2 o0 xr u1_0 gn gu gb ga lc lk ln lt ll lr tw tn tt oo) H := hP
    have hD : va_D A (W_O cI cJ x0 g0 g1 g2 g3 g4 l0 l1 l2 l3 l4 l5 t0 t1 t2 o0 xr u1_0 gn gu gb ga lc lk ln lt ll lr tw tn tt oo) := hD
    refine lv_i2l (v := (r1).toInt64) hx hb dL_tick_7 rfl ?_
    refine va_last hx hb hK hP hD hS 15 1 rfl rfl (by unfold vp_in; decide) dL_tick_8 (fun H locs hP hD hS => ?_)
    have hP : va_P D vwCl (W_O cI cJ x0 g0 g1 g2 g3 g4 l0 l1 l2 l3 l4 l5 t0 t1 t2 o0 xr u1_0 gn gu gb ga lc lk ln lt ll lr tw tn tt (vp_updL oo (0 : Int32).toNatClampNeg ((r1).toInt64))) H := hP
    have hD : va_D A (W_O cI cJ x0 g0 g1 g2 g3 g4 l0 l1 l2 l3 l4 l5 t0 t1 t2 o0 xr u1_0 gn gu gb ga lc lk ln lt ll lr tw tn tt (vp_updL oo (0 : Int32).toNatClampNeg ((r1).toInt64))) := hD
    refine lv_goto (tgt := 15) hx hb dL_tick_9 (by decide) ?_
    refine lv_iconst (v := 0) hx hb dL_tick_15 (by decide) ?_
    exact W.iret (v := 0) hx hb hr (fun t ht hW => ⟨⟨0, (u1_0, (vp_updL oo (0 : Int32).toNatClampNeg ((r1).toInt64))), rfl, he, by rw [ht]; exact hP, va_K.moved hW.alike hK, hD⟩, hS.F ht⟩) hS.2.2 dL_tick_16
abbrev rm_L_raise : Room := { frames := 8, cells := 2, slots := 12, locals := 125 }
abbrev Q_L_raise (D : va_G) (cI : ClassId) (cJ : ClassId) (x0 g0 g1 g2 g3 g4 l0 l1 l2 l3 l4 l5 t0 t1 t2 o0 : Nat) (xr : Int32) (xt : Int32) (gn : AA) (gu : AA) (gb : AA) (ga : AA) (lc : Int32) (lk : AA) (ln : AA) (lt : AA) (ll : AA) (lr : AA) (tw : Int32) (tn : AA) (tt : AA) (oo : LA) (a1 : Int32) (A : Nat → Prop) : Array Value → State → Outcome → State → Prop := va_Qi (S := Int32 × Int32 × AA × AA × AA × AA × AA × Int32 × AA × AA × LA) (fun r u => f_L_raise xr xt gb ga lc lk ln lt ll lr tw tn tt oo a1 = (r, u)) (fun u t => QW D [(cI, .int), (cJ, .long)] A (W_O cI cJ x0 g0 g1 g2 g3 g4 l0 l1 l2 l3 l4 l5 t0 t1 t2 o0 u.1 xt gn gu gb ga u.2.1 u.2.2.1 u.2.2.2.1 u.2.2.2.2.1 u.2.2.2.2.2.1 u.2.2.2.2.2.2.1 u.2.2.2.2.2.2.2.1 u.2.2.2.2.2.2.2.2.1 u.2.2.2.2.2.2.2.2.2.1 u.2.2.2.2.2.2.2.2.2.2) t) A
set_option maxHeartbeats 4000000 in
set_option maxRecDepth 100000 in
theorem c_L_raise (l : Launch)  (D : va_G) (cI : ClassId) (cJ : ClassId) (x0 g0 g1 g2 g3 g4 l0 l1 l2 l3 l4 l5 t0 t1 t2 o0 : Nat) (xr : Int32) (xt : Int32) (gn : AA) (gu : AA) (gb : AA) (ga : AA) (lc : Int32) (lk : AA) (ln : AA) (lt : AA) (ll : AA) (lr : AA) (tw : Int32) (tn : AA) (tt : AA) (oo : LA) (sz : Nat) (a1 : Int32) (hp : p_L_raise xr xt gb ga lc lk ln lt ll lr tw tn tt a1) (hst : l.stackTraces = false) : Met l yL_raise wsL_raise rm_L_raise (va_Pc [.ref x0, .int a1, .ref o0] (PX D [(cI, .int), (cJ, .long)] sz (W_O cI cJ x0 g0 g1 g2 g3 g4 l0 l1 l2 l3 l4 l5 t0 t1 t2 o0 xr xt gn gu gb ga lc lk ln lt ll lr tw tn tt oo))) (Q_L_raise D cI cJ x0 g0 g1 g2 g3 g4 l0 l1 l2 l3 l4 l5 t0 t1 t2 o0 xr xt gn gu gb ga lc lk ln lt ll lr tw tn tt oo a1 (va_A (W_O cI cJ x0 g0 g1 g2 g3 g4 l0 l1 l2 l3 l4 l5 t0 t1 t2 o0 xr xt gn gu gb ga lc lk ln lt ll lr tw tn tt oo) sz)) 2 12 (va_A (W_O cI cJ x0 g0 g1 g2 g3 g4 l0 l1 l2 l3 l4 l5 t0 t1 t2 o0 xr xt gn gu gb ga lc lk ln lt ll lr tw tn tt oo) sz) := by
  refine va_MetW (cc := cL_raise) (maxL := 4) (ret := (some .int)) (hh := [(0, 9, 12, 13), (0, 9, 15, 36)]) (by decide) rfl ?_
  intro p e s m args below meth c s₁ B hml hv
  obtain ⟨rfl, ⟨hsz, hP, hK, hD0, hN⟩, hXB⟩ := hv
  have hx := B.exec
  have hb := B.bytes
  have hr := B.returns
  have hts := atoms_spec (ws := wsL_raise) B.pre
  have hown : s.vm.findClass RL = some m.cls := findClass_of_methodNamed B.named
  have hlocks := B.notSynchronized
  have htab := vx_table (x := yL_raise) B (hts (.codeWith yL_raise cL_raise 4 (some .int) [(0, 9, 12, 13), (0, 9, 15, 36)]) (by decide +kernel))
  subst hsz
  have hD := hD0.self (sz := s.heap.size)
  generalize hAe : va_A (W_O cI cJ x0 g0 g1 g2 g3 g4 l0 l1 l2 l3 l4 l5 t0 t1 t2 o0 xr xt gn gu gb ga lc lk ln lt ll lr tw tn tt oo) s.heap.size = A at hD hXB ⊢
  have hA : ∀ q : Nat, s.heap.size ≤ q → A q := fun q h => by rw [← hAe]; exact Or.inr h
  have hS : va_S A s.heap s.heap [] := va_S.rf
  have hl := lv_entry ([.ref x0, .int a1, .ref o0]) (n := 4) (Nat.le_of_ble_eq_true rfl)
  rw [lg_entry_eq]
  generalize (lg_sl ([.ref x0, .int a1, .ref o0]) ++ List.replicate (4 - (lg_sl ([.ref x0, .int a1, .ref o0])).length) Slot.unset).toArray = ls at hl ⊢
  have hl : lv_has ls 4 [(0, .ref x0), (1, .int a1), (2, .ref o0)] := hl
  have he := f_L_raise.eq_1 xr xt gb ga lc lk ln lt ll lr tw tn tt oo a1
  replace hp := Eq.mp (p_L_raise.eq_1 ..) hp
  refine lv_aload_n hx hb dL_raise_0 rfl (lv_at hl 2 rfl) ?_
  refine lv_iconst (v := 0) hx hb dL_raise_1 (by decide) ?_
  refine lv_aload_n hx hb dL_raise_2 rfl (lv_at hl 0 rfl) ?_
  refine lv_iload_n hx hb dL_raise_3 rfl (lv_at hl 1 rfl) ?_
  have hq1 := hp.1
  replace hp := hp.2
  refine k_xcalli (S := Int32 × Int32 × AA × AA × AA × AA × AA × Int32 × AA × AA) (px := fun E => f_X4_raise xr xt gb ga lc lk ln lt ll lr tw tn tt a1 = .inl E ∧ (E = eIO ∨ E = eIS)) (wc := (W_X4 cI x0 g0 g1 g2 g3 g4 l0 l1 l2 l3 l4 l5 t0 t1 t2 xr xt gn gu gb ga lc lk ln lt ll lr tw tn tt)) (wr := [(o0, .inl (cJ, 1, .inr (.inl oo)))]) (w1 := fun u => (W_X4 cI x0 g0 g1 g2 g3 g4 l0 l1 l2 l3 l4 l5 t0 t1 t2 u.1 xt gn gu gb ga u.2.1 u.2.2.1 u.2.2.2.1 u.2.2.2.2.1 u.2.2.2.2.2.1 u.2.2.2.2.2.2.1 u.2.2.2.2.2.2.2.1 u.2.2.2.2.2.2.2.2.1 u.2.2.2.2.2.2.2.2.2)) (fun u => (W_O cI cJ x0 g0 g1 g2 g3 g4 l0 l1 l2 l3 l4 l5 t0 t1 t2 o0 u.1 xt gn gu gb ga u.2.1 u.2.2.1 u.2.2.2.1 u.2.2.2.2.1 u.2.2.2.2.2.1 u.2.2.2.2.2.2.1 u.2.2.2.2.2.2.2.1 u.2.2.2.2.2.2.2.2.1 u.2.2.2.2.2.2.2.2.2 oo)) hP (hK.sub [0] rfl) hD hN hXB hS hA [0, 1, 2, 3, 4, 5, 6, 7, 8, 9, 10, 11, 12, 13, 14] [15] rfl rfl (by decide) (by decide) (by decide) [1, 2, 3, 4, 5, 6, 7, 8, 9, 10, 11, 12, 13, 14, 15, 0] (by decide) (fun _ => rfl) rfl (fun hg => vx_runV (As := [.int a1]) (rest := [.int 0, .ref o0]) ⟨hx, hb, hml, hown, hts⟩ (c_X4_raise l D cI x0 g0 g1 g2 g3 g4 l0 l1 l2 l3 l4 l5 t0 t1 t2 xr xt gn gu gb ga lc lk ln lt ll lr tw tn tt _ a1 hq1 hst) (cwV 1 hts gL_raise_X4_raise rfl rfl rfl (by decide +kernel) ⟨Nat.le_of_ble_eq_true rfl, Nat.le_of_ble_eq_true rfl⟩) ⟨PX.blind, va_recv hK hP (ci := 4) (q0 := 0) rfl rfl, fun U hU hW => ⟨rfl, hg U hU hW⟩⟩ rfl rfl hl.1 rfl (lv_room (Nat.le_of_ble_eq_true rfl)) dL_raise_4 ⟨Nat.le_of_ble_eq_true rfl, Nat.le_of_ble_eq_true rfl⟩) (fun E ce q9 H locs hw hP hD hS hc9 hv9 hcl9 => ?_) (fun r1 u H locs hw hP hD hS => ?_)
  · rw [hw.1] at he
    try dsimp only at he
    rcases hw.2 with hE | hE
    · subst hE
      replace he := he.trans (if_pos rfl)
      refine vx_catch (own := RL) (name := eIO) hown [] ⟨0, 9, 12, 13⟩ [⟨0, 9, 15, 36⟩] htab (fun z hz => absurd hz List.not_mem_nil) (by decide) (by decide) (hts (.classLink RL 13 eIO) (by decide +kernel)) (hXB.cast (w := .castable eIO eIO) (by decide +kernel)) hc9 hv9 hcl9 ?_
      refine lv_astore_n (lv' := [(3, .ref q9), (0, .ref x0), (1, .int a1), (2, .ref o0)]) hx hb dL_raise_12 rfl hl (by decide) rfl (fun ls hl => ?_)
      refine lv_iconst (v := 1) hx hb dL_raise_13 (by decide) ?_
      exact W.iret (v := 1) hx hb hr (fun t ht hW => ⟨⟨1, (xr, lc, lk, ln, lt, ll, lr, tw, tn, tt, oo), rfl, he, by rw [ht]; exact hP, va_K.moved hW.alike hK, hD⟩, hS.F ht⟩) hS.2.2 dL_raise_14
    · subst hE
      replace he := he.trans (if_neg (by decide +kernel))
      refine vx_catch (own := RL) (name := eIS) hown [⟨0, 9, 12, 13⟩] ⟨0, 9, 15, 36⟩ [] htab (fun z hz => by rcases List.mem_singleton.mp hz with rfl; exact Or.inr ⟨by decide, eIO, hts (.classLink RL 13 eIO) (by decide +kernel), hXB.2.2.2.2.1⟩) (by decide) (by decide) (hts (.classLink RL 36 eIS) (by decide +kernel)) (hXB.cast (w := .castable eIS eIS) (by decide +kernel)) hc9 hv9 hcl9 ?_
      refine lv_astore_n (lv' := [(3, .ref q9), (0, .ref x0), (1, .int a1), (2, .ref o0)]) hx hb dL_raise_15 rfl hl (by decide) rfl (fun ls hl => ?_)
      refine lv_iconst (v := 2) hx hb dL_raise_16 (by decide) ?_
      exact W.iret (v := 2) hx hb hr (fun t ht hW => ⟨⟨2, (xr, lc, lk, ln, lt, ll, lr, tw, tn, tt, oo), rfl, he, by rw [ht]; exact hP, va_K.moved hW.alike hK, hD⟩, hS.F ht⟩) hS.2.2 dL_raise_17
  · obtain ⟨u1_0, u1_1, u1_2, u1_3, u1_4, u1_5, u1_6, u1_7, u1_8, u1_9⟩ := u
    rw [hw] at he
    try dsimp only at he
    replace hp := hp r1 u1_0 u1_1 u1_2 u1_3 u1_4 u1_5 u1_6 u1_7 u1_8 u1_9 hw
    have hP : va_P D vwCl (W_O cI cJ x0 g0 g1 g2 g3 g4 l0 l1 l2 l3 l4 l5 t0 t1 t2 o0 u1_0 xt gn gu gb ga u1_1 u1_2 u1_3 u1_4 u1_5 u1_6 u1_7 u1_8 u1_9 oo) H := hP
    have hD : va_D A (W_O cI cJ x0 g0 g1 g2 g3 g4 l0 l1 l2 l3 l4 l5 t0 t1 t2 o0 u1_0 xt gn gu gb ga u1_1 u1_2 u1_3 u1_4 u1_5 u1_6 u1_7 u1_8 u1_9 oo) := hD
    refine lv_i2l (v := (r1).toInt64) hx hb dL_raise_7 rfl ?_
    refine va_last hx hb hK hP hD hS 15 1 rfl rfl (by unfold vp_in; decide) dL_raise_8 (fun H locs hP hD hS => ?_)
    have hP : va_P D vwCl (W_O cI cJ x0 g0 g1 g2 g3 g4 l0 l1 l2 l3 l4 l5 t0 t1 t2 o0 u1_0 xt gn gu gb ga u1_1 u1_2 u1_3 u1_4 u1_5 u1_6 u1_7 u1_8 u1_9 (vp_updL oo (0 : Int32).toNatClampNeg ((r1).toInt64))) H := hP
    have hD : va_D A (W_O cI cJ x0 g0 g1 g2 g3 g4 l0 l1 l2 l3 l4 l5 t0 t1 t2 o0 u1_0 xt gn gu gb ga u1_1 u1_2 u1_3 u1_4 u1_5 u1_6 u1_7 u1_8 u1_9 (vp_updL oo (0 : Int32).toNatClampNeg ((r1).toInt64))) := hD
    refine lv_goto (tgt := 18) hx hb dL_raise_9 (by decide) ?_
    refine lv_iconst (v := 0) hx hb dL_raise_18 (by decide) ?_
    exact W.iret (v := 0) hx hb hr (fun t ht hW => ⟨⟨0, (u1_0, u1_1, u1_2, u1_3, u1_4, u1_5, u1_6, u1_7, u1_8, u1_9, (vp_updL oo (0 : Int32).toNatClampNeg ((r1).toInt64))), rfl, he, by rw [ht]; exact hP, va_K.moved hW.alike hK, hD⟩, hS.F ht⟩) hS.2.2 dL_raise_19
abbrev rm_L_clear : Room := { frames := 8, cells := 2, slots := 12, locals := 124 }
abbrev Q_L_clear (D : va_G) (cI : ClassId) (cJ : ClassId) (x0 g0 g1 g2 g3 g4 l0 l1 l2 l3 l4 l5 t0 t1 t2 o0 : Nat) (xr : Int32) (xt : Int32) (gn : AA) (gu : AA) (gb : AA) (ga : AA) (lc : Int32) (lk : AA) (ln : AA) (lt : AA) (ll : AA) (lr : AA) (tw : Int32) (tn : AA) (tt : AA) (oo : LA) (a1 : Int32) (A : Nat → Prop) : Array Value → State → Outcome → State → Prop := va_Qi (S := Int32 × Int32 × AA × AA × AA × AA × AA × LA) (fun r u => f_L_clear xr xt lc lk ln lt ll lr tw tn oo a1 = (r, u)) (fun u t => QW D [(cI, .int), (cJ, .long)] A (W_O cI cJ x0 g0 g1 g2 g3 g4 l0 l1 l2 l3 l4 l5 t0 t1 t2 o0 u.1 xt gn gu gb ga u.2.1 u.2.2.1 u.2.2.2.1 u.2.2.2.2.1 u.2.2.2.2.2.1 lr tw u.2.2.2.2.2.2.1 tt u.2.2.2.2.2.2.2) t) A
set_option maxHeartbeats 4000000 in
set_option maxRecDepth 100000 in
theorem c_L_clear (l : Launch)  (D : va_G) (cI : ClassId) (cJ : ClassId) (x0 g0 g1 g2 g3 g4 l0 l1 l2 l3 l4 l5 t0 t1 t2 o0 : Nat) (xr : Int32) (xt : Int32) (gn : AA) (gu : AA) (gb : AA) (ga : AA) (lc : Int32) (lk : AA) (ln : AA) (lt : AA) (ll : AA) (lr : AA) (tw : Int32) (tn : AA) (tt : AA) (oo : LA) (sz : Nat) (a1 : Int32) (hp : p_L_clear xr xt lc lk ln lt ll lr tw tn a1) (hst : l.stackTraces = false) : Met l yL_clear wsL_clear rm_L_clear (va_Pc [.ref x0, .int a1, .ref o0] (PX D [(cI, .int), (cJ, .long)] sz (W_O cI cJ x0 g0 g1 g2 g3 g4 l0 l1 l2 l3 l4 l5 t0 t1 t2 o0 xr xt gn gu gb ga lc lk ln lt ll lr tw tn tt oo))) (Q_L_clear D cI cJ x0 g0 g1 g2 g3 g4 l0 l1 l2 l3 l4 l5 t0 t1 t2 o0 xr xt gn gu gb ga lc lk ln lt ll lr tw tn tt oo a1 (va_A (W_O cI cJ x0 g0 g1 g2 g3 g4 l0 l1 l2 l3 l4 l5 t0 t1 t2 o0 xr xt gn gu gb ga lc lk ln lt ll lr tw tn tt oo) sz)) 2 12 (va_A (W_O cI cJ x0 g0 g1 g2 g3 g4 l0 l1 l2 l3 l4 l5 t0 t1 t2 o0 xr xt gn gu gb ga lc lk ln lt ll lr tw tn tt oo) sz) := by
  refine va_MetW (cc := cL_clear) (maxL := 4) (ret := (some .int)) (hh := [(0, 9, 12, 13), (0, 9, 15, 36)]) (by decide) rfl ?_
  intro p e s m args below meth c s₁ B hml hv
  obtain ⟨rfl, ⟨hsz, hP, hK, hD0, hN⟩, hXB⟩ := hv
  have hx := B.exec
  have hb := B.bytes
  have hr := B.returns
  have hts := atoms_spec (ws := wsL_clear) B.pre
  have hown : s.vm.findClass RL = some m.cls := findClass_of_methodNamed B.named
  have hlocks := B.notSynchronized
  have htab := vx_table (x := yL_clear) B (hts (.codeWith yL_clear cL_clear 4 (some .int) [(0, 9, 12, 13), (0, 9, 15, 36)]) (by decide +kernel))
  subst hsz
  have hD := hD0.self (sz := s.heap.size)
  generalize hAe : va_A (W_O cI cJ x0 g0 g1 g2 g3 g4 l0 l1 l2 l3 l4 l5 t0 t1 t2 o0 xr xt gn gu gb ga lc lk ln lt ll lr tw tn tt oo) s.heap.size = A at hD hXB ⊢
  have hA : ∀ q : Nat, s.heap.size ≤ q → A q := fun q h => by rw [← hAe]; exact Or.inr h
  have hS : va_S A s.heap s.heap [] := va_S.rf
  have hl := lv_entry ([.ref x0, .int a1, .ref o0]) (n := 4) (Nat.le_of_ble_eq_true rfl)
  rw [lg_entry_eq]
  generalize (lg_sl ([.ref x0, .int a1, .ref o0]) ++ List.replicate (4 - (lg_sl ([.ref x0, .int a1, .ref o0])).length) Slot.unset).toArray = ls at hl ⊢
  have hl : lv_has ls 4 [(0, .ref x0), (1, .int a1), (2, .ref o0)] := hl
  have he := f_L_clear.eq_1 xr xt lc lk ln lt ll lr tw tn oo a1
  replace hp := Eq.mp (p_L_clear.eq_1 ..) hp
  refine lv_aload_n hx hb dL_clear_0 rfl (lv_at hl 2 rfl) ?_
  refine lv_iconst (v := 0) hx hb dL_clear_1 (by decide) ?_
  refine lv_aload_n hx hb dL_clear_2 rfl (lv_at hl 0 rfl) ?_
  refine lv_iload_n hx hb dL_clear_3 rfl (lv_at hl 1 rfl) ?_
  have hq1 := hp.1
  replace hp := hp.2
  refine k_xcalli (S := Int32 × Int32 × AA × AA × AA × AA × AA) (px := fun E => f_X4_clear xr xt lc lk ln lt ll lr tw tn a1 = .inl E ∧ (E = eIO ∨ E = eIS)) (wc := (W_X4 cI x0 g0 g1 g2 g3 g4 l0 l1 l2 l3 l4 l5 t0 t1 t2 xr xt gn gu gb ga lc lk ln lt ll lr tw tn tt)) (wr := [(o0, .inl (cJ, 1, .inr (.inl oo)))]) (w1 := fun u => (W_X4 cI x0 g0 g1 g2 g3 g4 l0 l1 l2 l3 l4 l5 t0 t1 t2 u.1 xt gn gu gb ga u.2.1 u.2.2.1 u.2.2.2.1 u.2.2.2.2.1 u.2.2.2.2.2.1 lr tw u.2.2.2.2.2.2 tt)) (fun u => (W_O cI cJ x0 g0 g1 g2 g3 g4 l0 l1 l2 l3 l4 l5 t0 t1 t2 o0 u.1 xt gn gu gb ga u.2.1 u.2.2.1 u.2.2.2.1 u.2.2.2.2.1 u.2.2.2.2.2.1 lr tw u.2.2.2.2.2.2 tt oo)) hP (hK.sub [0] rfl) hD hN hXB hS hA [0, 1, 2, 3, 4, 5, 6, 7, 8, 9, 10, 11, 12, 13, 14] [15] rfl rfl (by decide) (by decide) (by decide) [1, 2, 3, 4, 5, 6, 7, 8, 9, 10, 11, 12, 13, 14, 15, 0] (by decide) (fun _ => rfl) rfl (fun hg => vx_runV (As := [.int a1]) (rest := [.int 0, .ref o0]) ⟨hx, hb, hml, hown, hts⟩ (c_X4_clear l D cI x0 g0 g1 g2 g3 g4 l0 l1 l2 l3 l4 l5 t0 t1 t2 xr xt gn gu gb ga lc lk ln lt ll lr tw tn tt _ a1 hq1 hst) (cwV 1 hts gL_clear_X4_clear rfl rfl rfl (by decide +kernel) ⟨Nat.le_of_ble_eq_true rfl, Nat.le_of_ble_eq_true rfl⟩) ⟨PX.blind, va_recv hK hP (ci := 4) (q0 := 0) rfl rfl, fun U hU hW => ⟨rfl, hg U hU hW⟩⟩ rfl rfl hl.1 rfl (lv_room (Nat.le_of_ble_eq_true rfl)) dL_clear_4 ⟨Nat.le_of_ble_eq_true rfl, Nat.le_of_ble_eq_true rfl⟩) (fun E ce q9 H locs hw hP hD hS hc9 hv9 hcl9 => ?_) (fun r1 u H locs hw hP hD hS => ?_)
  · rw [hw.1] at he
    try dsimp only at he
    rcases hw.2 with hE | hE
    · subst hE
      replace he := he.trans (if_pos rfl)
      refine vx_catch (own := RL) (name := eIO) hown [] ⟨0, 9, 12, 13⟩ [⟨0, 9, 15, 36⟩] htab (fun z hz => absurd hz List.not_mem_nil) (by decide) (by decide) (hts (.classLink RL 13 eIO) (by decide +kernel)) (hXB.cast (w := .castable eIO eIO) (by decide +kernel)) hc9 hv9 hcl9 ?_
      refine lv_astore_n (lv' := [(3, .ref q9), (0, .ref x0), (1, .int a1), (2, .ref o0)]) hx hb dL_clear_12 rfl hl (by decide) rfl (fun ls hl => ?_)
      refine lv_iconst (v := 1) hx hb dL_clear_13 (by decide) ?_
      exact W.iret (v := 1) hx hb hr (fun t ht hW => ⟨⟨1, (xr, lc, lk, ln, lt, ll, tn, oo), rfl, he, by rw [ht]; exact hP, va_K.moved hW.alike hK, hD⟩, hS.F ht⟩) hS.2.2 dL_clear_14
    · subst hE
      replace he := he.trans (if_neg (by decide +kernel))
      refine vx_catch (own := RL) (name := eIS) hown [⟨0, 9, 12, 13⟩] ⟨0, 9, 15, 36⟩ [] htab (fun z hz => by rcases List.mem_singleton.mp hz with rfl; exact Or.inr ⟨by decide, eIO, hts (.classLink RL 13 eIO) (by decide +kernel), hXB.2.2.2.2.1⟩) (by decide) (by decide) (hts (.classLink RL 36 eIS) (by decide +kernel)) (hXB.cast (w := .castable eIS eIS) (by decide +kernel)) hc9 hv9 hcl9 ?_
      refine lv_astore_n (lv' := [(3, .ref q9), (0, .ref x0), (1, .int a1), (2, .ref o0)]) hx hb dL_clear_15 rfl hl (by decide) rfl (fun ls hl => ?_)
      refine lv_iconst (v := 2) hx hb dL_clear_16 (by decide) ?_
      exact W.iret (v := 2) hx hb hr (fun t ht hW => ⟨⟨2, (xr, lc, lk, ln, lt, ll, tn, oo), rfl, he, by rw [ht]; exact hP, va_K.moved hW.alike hK, hD⟩, hS.F ht⟩) hS.2.2 dL_clear_17
  · obtain ⟨u1_0, u1_1, u1_2, u1_3, u1_4, u1_5, u1_6⟩ := u
    rw [hw] at he
    try dsimp only at he
    replace hp := hp r1 u1_0 u1_1 u1_2 u1_3 u1_4 u1_5 u1_6 hw
    have hP : va_P D vwCl (W_O cI cJ x0 g0 g1 g2 g3 g4 l0 l1 l2 l3 l4 l5 t0 t1 t2 o0 u1_0 xt gn gu gb ga u1_1 u1_2 u1_3 u1_4 u1_5 lr tw u1_6 tt oo) H := hP
    have hD : va_D A (W_O cI cJ x0 g0 g1 g2 g3 g4 l0 l1 l2 l3 l4 l5 t0 t1 t2 o0 u1_0 xt gn gu gb ga u1_1 u1_2 u1_3 u1_4 u1_5 lr tw u1_6 tt oo) := hD
    refine lv_i2l (v := (r1).toInt64) hx hb dL_clear_7 rfl ?_
    refine va_last hx hb hK hP hD hS 15 1 rfl rfl (by unfold vp_in; decide) dL_clear_8 (fun H locs hP hD hS => ?_)
    have hP : va_P D vwCl (W_O cI cJ x0 g0 g1 g2 g3 g4 l0 l1 l2 l3 l4 l5 t0 t1 t2 o0 u1_0 xt gn gu gb ga u1_1 u1_2 u1_3 u1_4 u1_5 lr tw u1_6 tt (vp_updL oo (0 : Int32).toNatClampNeg ((r1).toInt64))) H := hP
    have hD : va_D A (W_O cI cJ x0 g0 g1 g2 g3 g4 l0 l1 l2 l3 l4 l5 t0 t1 t2 o0 u1_0 xt gn gu gb ga u1_1 u1_2 u1_3 u1_4 u1_5 lr tw u1_6 tt (vp_updL oo (0 : Int32).toNatClampNeg ((r1).toInt64))) := hD
    refine lv_goto (tgt := 18) hx hb dL_clear_9 (by decide) ?_
    refine lv_iconst (v := 0) hx hb dL_clear_18 (by decide) ?_
    exact W.iret (v := 0) hx hb hr (fun t ht hW => ⟨⟨0, (u1_0, u1_1, u1_2, u1_3, u1_4, u1_5, u1_6, (vp_updL oo (0 : Int32).toNatClampNeg ((r1).toInt64))), rfl, he, by rw [ht]; exact hP, va_K.moved hW.alike hK, hD⟩, hS.F ht⟩) hS.2.2 dL_clear_19
abbrev rm_L_state : Room := { frames := 8, cells := 1, slots := 6, locals := 123 }
abbrev Q_L_state (D : va_G) (cI : ClassId) (cJ : ClassId) (x0 g0 g1 g2 g3 g4 l0 l1 l2 l3 l4 l5 t0 t1 t2 o0 : Nat) (xr : Int32) (xt : Int32) (gn : AA) (gu : AA) (gb : AA) (ga : AA) (lc : Int32) (lk : AA) (ln : AA) (lt : AA) (ll : AA) (lr : AA) (tw : Int32) (tn : AA) (tt : AA) (oo : LA) (a1 : Int32) (A : Nat → Prop) : Array Value → State → Outcome → State → Prop := va_Qi (S := LA) (fun r u => f_L_state xr xt gb lc lk ln lt oo a1 = (r, u)) (fun u t => QW D [(cI, .int), (cJ, .long)] A (W_O cI cJ x0 g0 g1 g2 g3 g4 l0 l1 l2 l3 l4 l5 t0 t1 t2 o0 xr xt gn gu gb ga lc lk ln lt ll lr tw tn tt u) t) A
set_option maxHeartbeats 4000000 in
set_option maxRecDepth 100000 in
theorem c_L_state (l : Launch)  (D : va_G) (cI : ClassId) (cJ : ClassId) (x0 g0 g1 g2 g3 g4 l0 l1 l2 l3 l4 l5 t0 t1 t2 o0 : Nat) (xr : Int32) (xt : Int32) (gn : AA) (gu : AA) (gb : AA) (ga : AA) (lc : Int32) (lk : AA) (ln : AA) (lt : AA) (ll : AA) (lr : AA) (tw : Int32) (tn : AA) (tt : AA) (oo : LA) (sz : Nat) (a1 : Int32) (hp : p_L_state xr xt gb lc lk ln lt a1) (hst : l.stackTraces = false) : Met l yL_state wsL_state rm_L_state (va_Pc [.ref x0, .int a1, .ref o0] (PX D [(cI, .int), (cJ, .long)] sz (W_O cI cJ x0 g0 g1 g2 g3 g4 l0 l1 l2 l3 l4 l5 t0 t1 t2 o0 xr xt gn gu gb ga lc lk ln lt ll lr tw tn tt oo))) (Q_L_state D cI cJ x0 g0 g1 g2 g3 g4 l0 l1 l2 l3 l4 l5 t0 t1 t2 o0 xr xt gn gu gb ga lc lk ln lt ll lr tw tn tt oo a1 (va_A (W_O cI cJ x0 g0 g1 g2 g3 g4 l0 l1 l2 l3 l4 l5 t0 t1 t2 o0 xr xt gn gu gb ga lc lk ln lt ll lr tw tn tt oo) sz)) 1 6 (va_A (W_O cI cJ x0 g0 g1 g2 g3 g4 l0 l1 l2 l3 l4 l5 t0 t1 t2 o0 xr xt gn gu gb ga lc lk ln lt ll lr tw tn tt oo) sz) := by
  refine va_MetW (cc := cL_state) (maxL := 4) (ret := (some .int)) (hh := [(0, 9, 12, 13)]) (by decide) rfl ?_
  intro p e s m args below meth c s₁ B hml hv
  obtain ⟨rfl, ⟨hsz, hP, hK, hD0, hN⟩, hXB⟩ := hv
  have hx := B.exec
  have hb := B.bytes
  have hr := B.returns
  have hts := atoms_spec (ws := wsL_state) B.pre
  have hown : s.vm.findClass RL = some m.cls := findClass_of_methodNamed B.named
  have hlocks := B.notSynchronized
  have htab := vx_table (x := yL_state) B (hts (.codeWith yL_state cL_state 4 (some .int) [(0, 9, 12, 13)]) (by decide +kernel))
  subst hsz
  have hD := hD0.self (sz := s.heap.size)
  generalize hAe : va_A (W_O cI cJ x0 g0 g1 g2 g3 g4 l0 l1 l2 l3 l4 l5 t0 t1 t2 o0 xr xt gn gu gb ga lc lk ln lt ll lr tw tn tt oo) s.heap.size = A at hD hXB ⊢
  have hA : ∀ q : Nat, s.heap.size ≤ q → A q := fun q h => by rw [← hAe]; exact Or.inr h
  have hS : va_S A s.heap s.heap [] := va_S.rf
  have hl := lv_entry ([.ref x0, .int a1, .ref o0]) (n := 4) (Nat.le_of_ble_eq_true rfl)
  rw [lg_entry_eq]
  generalize (lg_sl ([.ref x0, .int a1, .ref o0]) ++ List.replicate (4 - (lg_sl ([.ref x0, .int a1, .ref o0])).length) Slot.unset).toArray = ls at hl ⊢
  have hl : lv_has ls 4 [(0, .ref x0), (1, .int a1), (2, .ref o0)] := hl
  have he := f_L_state.eq_1 xr xt gb lc lk ln lt oo a1
  replace hp := Eq.mp (p_L_state.eq_1 ..) hp
  refine lv_aload_n hx hb dL_state_0 rfl (lv_at hl 2 rfl) ?_
  refine lv_iconst (v := 0) hx hb dL_state_1 (by decide) ?_
  refine lv_aload_n hx hb dL_state_2 rfl (lv_at hl 0 rfl) ?_
  refine lv_iload_n hx hb dL_state_3 rfl (lv_at hl 1 rfl) ?_
  have hq1 := hp.1
  replace hp := hp.2
  refine k_xcalli (S := Unit) (px := fun E => f_X4_state xr xt gb lc lk ln lt a1 = .inl E ∧ (E = eIO)) (wc := (W_X4 cI x0 g0 g1 g2 g3 g4 l0 l1 l2 l3 l4 l5 t0 t1 t2 xr xt gn gu gb ga lc lk ln lt ll lr tw tn tt)) (wr := [(o0, .inl (cJ, 1, .inr (.inl oo)))]) (w1 := fun u => (W_X4 cI x0 g0 g1 g2 g3 g4 l0 l1 l2 l3 l4 l5 t0 t1 t2 xr xt gn gu gb ga lc lk ln lt ll lr tw tn tt)) (fun u => (W_O cI cJ x0 g0 g1 g2 g3 g4 l0 l1 l2 l3 l4 l5 t0 t1 t2 o0 xr xt gn gu gb ga lc lk ln lt ll lr tw tn tt oo)) hP (hK.sub [0] rfl) hD hN hXB hS hA [0, 1, 2, 3, 4, 5, 6, 7, 8, 9, 10, 11, 12, 13, 14] [15] rfl rfl (by decide) (by decide) (by decide) [1, 2, 3, 4, 5, 6, 7, 8, 9, 10, 11, 12, 13, 14, 15, 0] (by decide) (fun _ => rfl) rfl (fun hg => vx_runV (As := [.int a1]) (rest := [.int 0, .ref o0]) ⟨hx, hb, hml, hown, hts⟩ (c_X4_state l D cI x0 g0 g1 g2 g3 g4 l0 l1 l2 l3 l4 l5 t0 t1 t2 xr xt gn gu gb ga lc lk ln lt ll lr tw tn tt _ a1 hq1 hst) (cwV 1 hts gL_state_X4_state rfl rfl rfl (by decide +kernel) ⟨Nat.le_of_ble_eq_true rfl, Nat.le_of_ble_eq_true rfl⟩) ⟨PX.blind, va_recv hK hP (ci := 4) (q0 := 0) rfl rfl, fun U hU hW => ⟨rfl, hg U hU hW⟩⟩ rfl rfl hl.1 rfl (lv_room (Nat.le_of_ble_eq_true rfl)) dL_state_4 ⟨Nat.le_of_ble_eq_true rfl, Nat.le_of_ble_eq_true rfl⟩) (fun E ce q9 H locs hw hP hD hS hc9 hv9 hcl9 => ?_) (fun r1 u H locs hw hP hD hS => ?_)
  · rw [hw.1] at he
    try dsimp only at he
    have hE := hw.2
    subst hE
    refine vx_catch (own := RL) (name := eIO) hown [] ⟨0, 9, 12, 13⟩ [] htab (fun z hz => absurd hz List.not_mem_nil) (by decide) (by decide) (hts (.classLink RL 13 eIO) (by decide +kernel)) (hXB.cast (w := .castable eIO eIO) (by decide +kernel)) hc9 hv9 hcl9 ?_
    refine lv_astore_n (lv' := [(3, .ref q9), (0, .ref x0), (1, .int a1), (2, .ref o0)]) hx hb dL_state_12 rfl hl (by decide) rfl (fun ls hl => ?_)
    refine lv_iconst (v := 1) hx hb dL_state_13 (by decide) ?_
    exact W.iret (v := 1) hx hb hr (fun t ht hW => ⟨⟨1, oo, rfl, he, by rw [ht]; exact hP, va_K.moved hW.alike hK, hD⟩, hS.F ht⟩) hS.2.2 dL_state_14
  · rw [hw] at he
    try dsimp only at he
    replace hp := hp r1 hw
    refine lv_i2l (v := (r1).toInt64) hx hb dL_state_7 rfl ?_
    refine va_last hx hb hK hP hD hS 15 1 rfl rfl (by unfold vp_in; decide) dL_state_8 (fun H locs hP hD hS => ?_)
    have hP : va_P D vwCl (W_O cI cJ x0 g0 g1 g2 g3 g4 l0 l1 l2 l3 l4 l5 t0 t1 t2 o0 xr xt gn gu gb ga lc lk ln lt ll lr tw tn tt (vp_updL oo (0 : Int32).toNatClampNeg ((r1).toInt64))) H := hP
    have hD : va_D A (W_O cI cJ x0 g0 g1 g2 g3 g4 l0 l1 l2 l3 l4 l5 t0 t1 t2 o0 xr xt gn gu gb ga lc lk ln lt ll lr tw tn tt (vp_updL oo (0 : Int32).toNatClampNeg ((r1).toInt64))) := hD
    refine lv_goto (tgt := 15) hx hb dL_state_9 (by decide) ?_
    refine lv_iconst (v := 0) hx hb dL_state_15 (by decide) ?_
    exact W.iret (v := 0) hx hb hr (fun t ht hW => ⟨⟨0, (vp_updL oo (0 : Int32).toNatClampNeg ((r1).toInt64)), rfl, he, by rw [ht]; exact hP, va_K.moved hW.alike hK, hD⟩, hS.F ht⟩) hS.2.2 dL_state_16
abbrev rm_L_nodesThatAre : Room := { frames := 7, cells := 1, slots := 6, locals := 105 }
abbrev Q_L_nodesThatAre (D : va_G) (cI : ClassId) (cJ : ClassId) (x0 g0 g1 g2 g3 g4 l0 l1 l2 l3 l4 l5 t0 t1 t2 o0 : Nat) (xr : Int32) (xt : Int32) (gn : AA) (gu : AA) (gb : AA) (ga : AA) (lc : Int32) (lk : AA) (ln : AA) (lt : AA) (ll : AA) (lr : AA) (tw : Int32) (tn : AA) (tt : AA) (oo : LA) (a1 : Int32) (A : Nat → Prop) : Array Value → State → Outcome → State → Prop := va_Qi (S := LA) (fun r u => f_L_nodesThatAre xr xt gb lc lk ln lt oo a1 = (r, u)) (fun u t => QW D [(cI, .int), (cJ, .long)] A (W_O cI cJ x0 g0 g1 g2 g3 g4 l0 l1 l2 l3 l4 l5 t0 t1 t2 o0 xr xt gn gu gb ga lc lk ln lt ll lr tw tn tt u) t) A
set_option maxHeartbeats 4000000 in
set_option maxRecDepth 100000 in
theorem c_L_nodesThatAre (l : Launch)  (D : va_G) (cI : ClassId) (cJ : ClassId) (x0 g0 g1 g2 g3 g4 l0 l1 l2 l3 l4 l5 t0 t1 t2 o0 : Nat) (xr : Int32) (xt : Int32) (gn : AA) (gu : AA) (gb : AA) (ga : AA) (lc : Int32) (lk : AA) (ln : AA) (lt : AA) (ll : AA) (lr : AA) (tw : Int32) (tn : AA) (tt : AA) (oo : LA) (sz : Nat) (a1 : Int32) (hp : p_L_nodesThatAre xr xt gb lc lk ln lt a1) (hst : l.stackTraces = false) : Met l yL_nodesThatAre wsL_nodesThatAre rm_L_nodesThatAre (va_Pc [.ref x0, .int a1, .ref o0] (PX D [(cI, .int), (cJ, .long)] sz (W_O cI cJ x0 g0 g1 g2 g3 g4 l0 l1 l2 l3 l4 l5 t0 t1 t2 o0 xr xt gn gu gb ga lc lk ln lt ll lr tw tn tt oo))) (Q_L_nodesThatAre D cI cJ x0 g0 g1 g2 g3 g4 l0 l1 l2 l3 l4 l5 t0 t1 t2 o0 xr xt gn gu gb ga lc lk ln lt ll lr tw tn tt oo a1 (va_A (W_O cI cJ x0 g0 g1 g2 g3 g4 l0 l1 l2 l3 l4 l5 t0 t1 t2 o0 xr xt gn gu gb ga lc lk ln lt ll lr tw tn tt oo) sz)) 1 6 (va_A (W_O cI cJ x0 g0 g1 g2 g3 g4 l0 l1 l2 l3 l4 l5 t0 t1 t2 o0 xr xt gn gu gb ga lc lk ln lt ll lr tw tn tt oo) sz) := by
  refine va_MetW (cc := cL_nodesThatAre) (maxL := 4) (ret := (some .int)) (hh := [(0, 9, 12, 15)]) (by decide) rfl ?_
  intro p e s m args below meth c s₁ B hml hv
  obtain ⟨rfl, ⟨hsz, hP, hK, hD0, hN⟩, hXB⟩ := hv
  have hx := B.exec
  have hb := B.bytes
  have hr := B.returns
  have hts := atoms_spec (ws := wsL_nodesThatAre) B.pre
  have hown : s.vm.findClass RL = some m.cls := findClass_of_methodNamed B.named
  have hlocks := B.notSynchronized
  have htab := vx_table (x := yL_nodesThatAre) B (hts (.codeWith yL_nodesThatAre cL_nodesThatAre 4 (some .int) [(0, 9, 12, 15)]) (by decide +kernel))
  subst hsz
  have hD := hD0.self (sz := s.heap.size)
  generalize hAe : va_A (W_O cI cJ x0 g0 g1 g2 g3 g4 l0 l1 l2 l3 l4 l5 t0 t1 t2 o0 xr xt gn gu gb ga lc lk ln lt ll lr tw tn tt oo) s.heap.size = A at hD hXB ⊢
  have hA : ∀ q : Nat, s.heap.size ≤ q → A q := fun q h => by rw [← hAe]; exact Or.inr h
  have hS : va_S A s.heap s.heap [] := va_S.rf
  have hl := lv_entry ([.ref x0, .int a1, .ref o0]) (n := 4) (Nat.le_of_ble_eq_true rfl)
  rw [lg_entry_eq]
  generalize (lg_sl ([.ref x0, .int a1, .ref o0]) ++ List.replicate (4 - (lg_sl ([.ref x0, .int a1, .ref o0])).length) Slot.unset).toArray = ls at hl ⊢
  have hl : lv_has ls 4 [(0, .ref x0), (1, .int a1), (2, .ref o0)] := hl
  have he := f_L_nodesThatAre.eq_1 xr xt gb lc lk ln lt oo a1
  replace hp := Eq.mp (p_L_nodesThatAre.eq_1 ..) hp
  refine lv_aload_n hx hb dL_nodesThatAre_0 rfl (lv_at hl 2 rfl) ?_
  refine lv_iconst (v := 0) hx hb dL_nodesThatAre_1 (by decide) ?_
  refine lv_aload_n hx hb dL_nodesThatAre_2 rfl (lv_at hl 0 rfl) ?_
  refine lv_iload_n hx hb dL_nodesThatAre_3 rfl (lv_at hl 1 rfl) ?_
  have hq1 := hp.1
  replace hp := hp.2
  refine k_xcalli (S := Unit) (px := fun E => f_X4_nodesThatAre xr xt gb lc lk ln lt a1 = .inl E ∧ (E = eIA)) (wc := (W_X4 cI x0 g0 g1 g2 g3 g4 l0 l1 l2 l3 l4 l5 t0 t1 t2 xr xt gn gu gb ga lc lk ln lt ll lr tw tn tt)) (wr := [(o0, .inl (cJ, 1, .inr (.inl oo)))]) (w1 := fun u => (W_X4 cI x0 g0 g1 g2 g3 g4 l0 l1 l2 l3 l4 l5 t0 t1 t2 xr xt gn gu gb ga lc lk ln lt ll lr tw tn tt)) (fun u => (W_O cI cJ x0 g0 g1 g2 g3 g4 l0 l1 l2 l3 l4 l5 t0 t1 t2 o0 xr xt gn gu gb ga lc lk ln lt ll lr tw tn tt oo)) hP (hK.sub [0] rfl) hD hN hXB hS hA [0, 1, 2, 3, 4, 5, 6, 7, 8, 9, 10, 11, 12, 13, 14] [15] rfl rfl (by decide) (by decide) (by decide) [1, 2, 3, 4, 5, 6, 7, 8, 9, 10, 11, 12, 13, 14, 15, 0] (by decide) (fun _ => rfl) rfl (fun hg => vx_runV (As := [.int a1]) (rest := [.int 0, .ref o0]) ⟨hx, hb, hml, hown, hts⟩ (c_X4_nodesThatAre l D cI x0 g0 g1 g2 g3 g4 l0 l1 l2 l3 l4 l5 t0 t1 t2 xr xt gn gu gb ga lc lk ln lt ll lr tw tn tt _ a1 hq1 hst) (cwV 1 hts gL_nodesThatAre_X4_nodesThatAre rfl rfl rfl (by decide +kernel) ⟨Nat.le_of_ble_eq_true rfl, Nat.le_of_ble_eq_true rfl⟩) ⟨PX.blind, va_recv hK hP (ci := 4) (q0 := 0) rfl rfl, fun U hU hW => ⟨rfl, hg U hU hW⟩⟩ rfl rfl hl.1 rfl (lv_room (Nat.le_of_ble_eq_true rfl)) dL_nodesThatAre_4 ⟨Nat.le_of_ble_eq_true rfl, Nat.le_of_ble_eq_true rfl⟩) (fun E ce q9 H locs hw hP hD hS hc9 hv9 hcl9 => ?_) (fun r1 u H locs hw hP hD hS => ?_)
  · rw [hw.1] at he
    try dsimp only at he
    have hE := hw.2
    subst hE
    refine vx_catch (own := RL) (name := eIA) hown [] ⟨0, 9, 12, 15⟩ [] htab (fun z hz => absurd hz List.not_mem_nil) (by decide) (by decide) (hts (.classLink RL 15 eIA) (by decide +kernel)) (hXB.cast (w := .castable eIA eIA) (by decide +kernel)) hc9 hv9 hcl9 ?_
    refine lv_astore_n (lv' := [(3, .ref q9), (0, .ref x0), (1, .int a1), (2, .ref o0)]) hx hb dL_nodesThatAre_12 rfl hl (by decide) rfl (fun ls hl => ?_)
    refine lv_iconst (v := 1) hx hb dL_nodesThatAre_13 (by decide) ?_
    exact W.iret (v := 1) hx hb hr (fun t ht hW => ⟨⟨1, oo, rfl, he, by rw [ht]; exact hP, va_K.moved hW.alike hK, hD⟩, hS.F ht⟩) hS.2.2 dL_nodesThatAre_14
  · rw [hw] at he
    try dsimp only at he
    replace hp := hp r1 hw
    refine lv_i2l (v := (r1).toInt64) hx hb dL_nodesThatAre_7 rfl ?_
    refine va_last hx hb hK hP hD hS 15 1 rfl rfl (by unfold vp_in; decide) dL_nodesThatAre_8 (fun H locs hP hD hS => ?_)
    have hP : va_P D vwCl (W_O cI cJ x0 g0 g1 g2 g3 g4 l0 l1 l2 l3 l4 l5 t0 t1 t2 o0 xr xt gn gu gb ga lc lk ln lt ll lr tw tn tt (vp_updL oo (0 : Int32).toNatClampNeg ((r1).toInt64))) H := hP
    have hD : va_D A (W_O cI cJ x0 g0 g1 g2 g3 g4 l0 l1 l2 l3 l4 l5 t0 t1 t2 o0 xr xt gn gu gb ga lc lk ln lt ll lr tw tn tt (vp_updL oo (0 : Int32).toNatClampNeg ((r1).toInt64))) := hD
    refine lv_goto (tgt := 15) hx hb dL_nodesThatAre_9 (by decide) ?_
    refine lv_iconst (v := 0) hx hb dL_nodesThatAre_15 (by decide) ?_
    exact W.iret (v := 0) hx hb hr (fun t ht hW => ⟨⟨0, (vp_updL oo (0 : Int32).toNatClampNeg ((r1).toInt64)), rfl, he, by rw [ht]; exact hP, va_K.moved hW.alike hK, hD⟩, hS.F ht⟩) hS.2.2 dL_nodesThatAre_16
abbrev rm_L_raises : Room := { frames := 8, cells := 2, slots := 12, locals := 125 }
abbrev Q_L_raises (D : va_G) (cI : ClassId) (cJ : ClassId) (x0 g0 g1 g2 g3 g4 l0 l1 l2 l3 l4 l5 t0 t1 t2 o0 : Nat) (xr : Int32) (xt : Int32) (gn : AA) (gu : AA) (gb : AA) (ga : AA) (lc : Int32) (lk : AA) (ln : AA) (lt : AA) (ll : AA) (lr : AA) (tw : Int32) (tn : AA) (tt : AA) (oo : LA) (a1 a2 : Int32) (A : Nat → Prop) : Array Value → State → Outcome → State → Prop := va_Qi (S := LA) (fun r u => f_L_raises xt lc lk ln lt oo a1 a2 = (r, u)) (fun u t => QW D [(cI, .int), (cJ, .long)] A (W_O cI cJ x0 g0 g1 g2 g3 g4 l0 l1 l2 l3 l4 l5 t0 t1 t2 o0 xr xt gn gu gb ga lc lk ln lt ll lr tw tn tt u) t) A
set_option maxHeartbeats 4000000 in
set_option maxRecDepth 100000 in
theorem c_L_raises (l : Launch)  (D : va_G) (cI : ClassId) (cJ : ClassId) (x0 g0 g1 g2 g3 g4 l0 l1 l2 l3 l4 l5 t0 t1 t2 o0 : Nat) (xr : Int32) (xt : Int32) (gn : AA) (gu : AA) (gb : AA) (ga : AA) (lc : Int32) (lk : AA) (ln : AA) (lt : AA) (ll : AA) (lr : AA) (tw : Int32) (tn : AA) (tt : AA) (oo : LA) (sz : Nat) (a1 a2 : Int32) (hp : p_L_raises xt lc lk ln lt a1 a2) (hst : l.stackTraces = false) : Met l yL_raises wsL_raises rm_L_raises (va_Pc [.ref x0, .int a1, .int a2, .ref o0] (PX D [(cI, .int), (cJ, .long)] sz (W_O cI cJ x0 g0 g1 g2 g3 g4 l0 l1 l2 l3 l4 l5 t0 t1 t2 o0 xr xt gn gu gb ga lc lk ln lt ll lr tw tn tt oo))) (Q_L_raises D cI cJ x0 g0 g1 g2 g3 g4 l0 l1 l2 l3 l4 l5 t0 t1 t2 o0 xr xt gn gu gb ga lc lk ln lt ll lr tw tn tt oo a1 a2 (va_A (W_O cI cJ x0 g0 g1 g2 g3 g4 l0 l1 l2 l3 l4 l5 t0 t1 t2 o0 xr xt gn gu gb ga lc lk ln lt ll lr tw tn tt oo) sz)) 2 12 (va_A (W_O cI cJ x0 g0 g1 g2 g3 g4 l0 l1 l2 l3 l4 l5 t0 t1 t2 o0 xr xt gn gu gb ga lc lk ln lt ll lr tw tn tt oo) sz) := by
  refine va_MetW (cc := cL_raises) (maxL := 5) (ret := (some .int)) (hh := [(0, 10, 13, 13), (0, 10, 17, 15)]) (by decide) rfl ?_
  intro p e s m args below meth c s₁ B hml hv
  obtain ⟨rfl, ⟨hsz, hP, hK, hD0, hN⟩, hXB⟩ := hv
  have hx := B.exec
  have hb := B.bytes
  have hr := B.returns
  have hts := atoms_spec (ws := wsL_raises) B.pre
  have hown : s.vm.findClass RL = some m.cls := findClass_of_methodNamed B.named
  have hlocks := B.notSynchronized
  have htab := vx_table (x := yL_raises) B (hts (.codeWith yL_raises cL_raises 5 (some .int) [(0, 10, 13, 13), (0, 10, 17, 15)]) (by decide +kernel))
  subst hsz
  have hD := hD0.self (sz := s.heap.size)
  generalize hAe : va_A (W_O cI cJ x0 g0 g1 g2 g3 g4 l0 l1 l2 l3 l4 l5 t0 t1 t2 o0 xr xt gn gu gb ga lc lk ln lt ll lr tw tn tt oo) s.heap.size = A at hD hXB ⊢
  have hA : ∀ q : Nat, s.heap.size ≤ q → A q := fun q h => by rw [← hAe]; exact Or.inr h
  have hS : va_S A s.heap s.heap [] := va_S.rf
  have hl := lv_entry ([.ref x0, .int a1, .int a2, .ref o0]) (n := 5) (Nat.le_of_ble_eq_true rfl)
  rw [lg_entry_eq]
  generalize (lg_sl ([.ref x0, .int a1, .int a2, .ref o0]) ++ List.replicate (5 - (lg_sl ([.ref x0, .int a1, .int a2, .ref o0])).length) Slot.unset).toArray = ls at hl ⊢
  have hl : lv_has ls 5 [(0, .ref x0), (1, .int a1), (2, .int a2), (3, .ref o0)] := hl
  have he := f_L_raises.eq_1 xt lc lk ln lt oo a1 a2
  replace hp := Eq.mp (p_L_raises.eq_1 ..) hp
  refine lv_aload_n hx hb dL_raises_0 rfl (lv_at hl 3 rfl) ?_
  refine lv_iconst (v := 0) hx hb dL_raises_1 (by decide) ?_
  refine lv_aload_n hx hb dL_raises_2 rfl (lv_at hl 0 rfl) ?_
  refine lv_iload_n hx hb dL_raises_3 rfl (lv_at hl 1 rfl) ?_
  refine lv_iload_n hx hb dL_raises_4 rfl (lv_at hl 2 rfl) ?_
  have hq1 := hp.1
  replace hp := hp.2
  refine k_xcalli (S := Unit) (px := fun E => f_X4_raises xt lc lk ln lt a1 a2 = .inl E ∧ (E = eIO ∨ E = eIA)) (wc := (W_X4 cI x0 g0 g1 g2 g3 g4 l0 l1 l2 l3 l4 l5 t0 t1 t2 xr xt gn gu gb ga lc lk ln lt ll lr tw tn tt)) (wr := [(o0, .inl (cJ, 1, .inr (.inl oo)))]) (w1 := fun u => (W_X4 cI x0 g0 g1 g2 g3 g4 l0 l1 l2 l3 l4 l5 t0 t1 t2 xr xt gn gu gb ga lc lk ln lt ll lr tw tn tt)) (fun u => (W_O cI cJ x0 g0 g1 g2 g3 g4 l0 l1 l2 l3 l4 l5 t0 t1 t2 o0 xr xt gn gu gb ga lc lk ln lt ll lr tw tn tt oo)) hP (hK.sub [0] rfl) hD hN hXB hS hA [0, 1, 2, 3, 4, 5, 6, 7, 8, 9, 10, 11, 12, 13, 14] [15] rfl rfl (by decide) (by decide) (by decide) [1, 2, 3, 4, 5, 6, 7, 8, 9, 10, 11, 12, 13, 14, 15, 0] (by decide) (fun _ => rfl) rfl (fun hg => vx_runV (As := [.int a1, .int a2]) (rest := [.int 0, .ref o0]) ⟨hx, hb, hml, hown, hts⟩ (c_X4_raises l D cI x0 g0 g1 g2 g3 g4 l0 l1 l2 l3 l4 l5 t0 t1 t2 xr xt gn gu gb ga lc lk ln lt ll lr tw tn tt _ a1 a2 hq1 hst) (cwV 2 hts gL_raises_X4_raises rfl rfl rfl (by decide +kernel) ⟨Nat.le_of_ble_eq_true rfl, Nat.le_of_ble_eq_true rfl⟩) ⟨PX.blind, va_recv hK hP (ci := 4) (q0 := 0) rfl rfl, fun U hU hW => ⟨rfl, hg U hU hW⟩⟩ rfl rfl hl.1 rfl (lv_room (Nat.le_of_ble_eq_true rfl)) dL_raises_5 ⟨Nat.le_of_ble_eq_true rfl, Nat.le_of_ble_eq_true rfl⟩) (fun E ce q9 H locs hw hP hD hS hc9 hv9 hcl9 => ?_) (fun r1 u H locs hw hP hD hS => ?_)
  · rw [hw.1] at he
    try dsimp only at he
    rcases hw.2 with hE | hE
    · subst hE
      replace he := he.trans (if_pos rfl)
      refine vx_catch (own := RL) (name := eIO) hown [] ⟨0, 10, 13, 13⟩ [⟨0, 10, 17, 15⟩] htab (fun z hz => absurd hz List.not_mem_nil) (by decide) (by decide) (hts (.classLink RL 13 eIO) (by decide +kernel)) (hXB.cast (w := .castable eIO eIO) (by decide +kernel)) hc9 hv9 hcl9 ?_
      refine lv_astore (lv' := [(4, .ref q9), (0, .ref x0), (1, .int a1), (2, .int a2), (3, .ref o0)]) hx hb dL_raises_13 hl (by decide) rfl (fun ls hl => ?_)
      refine lv_iconst (v := 1) hx hb dL_raises_15 (by decide) ?_
      exact W.iret (v := 1) hx hb hr (fun t ht hW => ⟨⟨1, oo, rfl, he, by rw [ht]; exact hP, va_K.moved hW.alike hK, hD⟩, hS.F ht⟩) hS.2.2 dL_raises_16
    · subst hE
      replace he := he.trans (if_neg (by decide +kernel))
      refine vx_catch (own := RL) (name := eIA) hown [⟨0, 10, 13, 13⟩] ⟨0, 10, 17, 15⟩ [] htab (fun z hz => by rcases List.mem_singleton.mp hz with rfl; exact Or.inr ⟨by decide, eIO, hts (.classLink RL 13 eIO) (by decide +kernel), hXB.2.2.2.1⟩) (by decide) (by decide) (hts (.classLink RL 15 eIA) (by decide +kernel)) (hXB.cast (w := .castable eIA eIA) (by decide +kernel)) hc9 hv9 hcl9 ?_
      refine lv_astore (lv' := [(4, .ref q9), (0, .ref x0), (1, .int a1), (2, .int a2), (3, .ref o0)]) hx hb dL_raises_17 hl (by decide) rfl (fun ls hl => ?_)
      refine lv_iconst (v := 2) hx hb dL_raises_19 (by decide) ?_
      exact W.iret (v := 2) hx hb hr (fun t ht hW => ⟨⟨2, oo, rfl, he, by rw [ht]; exact hP, va_K.moved hW.alike hK, hD⟩, hS.F ht⟩) hS.2.2 dL_raises_20
  · rw [hw] at he
    try dsimp only at he
    replace hp := hp r1 hw
    refine lv_i2l (v := (r1).toInt64) hx hb dL_raises_8 rfl ?_
    refine va_last hx hb hK hP hD hS 15 1 rfl rfl (by unfold vp_in; decide) dL_raises_9 (fun H locs hP hD hS => ?_)
    have hP : va_P D vwCl (W_O cI cJ x0 g0 g1 g2 g3 g4 l0 l1 l2 l3 l4 l5 t0 t1 t2 o0 xr xt gn gu gb ga lc lk ln lt ll lr tw tn tt (vp_updL oo (0 : Int32).toNatClampNeg ((r1).toInt64))) H := hP
    have hD : va_D A (W_O cI cJ x0 g0 g1 g2 g3 g4 l0 l1 l2 l3 l4 l5 t0 t1 t2 o0 xr xt gn gu gb ga lc lk ln lt ll lr tw tn tt (vp_updL oo (0 : Int32).toNatClampNeg ((r1).toInt64))) := hD
    refine lv_goto (tgt := 21) hx hb dL_raises_10 (by decide) ?_
    refine lv_iconst (v := 0) hx hb dL_raises_21 (by decide) ?_
    exact W.iret (v := 0) hx hb hr (fun t ht hW => ⟨⟨0, (vp_updL oo (0 : Int32).toNatClampNeg ((r1).toInt64)), rfl, he, by rw [ht]; exact hP, va_K.moved hW.alike hK, hD⟩, hS.F ht⟩) hS.2.2 dL_raises_22
abbrev rm_L_eventKind : Room := { frames := 8, cells := 1, slots := 6, locals := 124 }
abbrev Q_L_eventKind (D : va_G) (cI : ClassId) (cJ : ClassId) (x0 g0 g1 g2 g3 g4 l0 l1 l2 l3 l4 l5 t0 t1 t2 o0 : Nat) (xr : Int32) (xt : Int32) (gn : AA) (gu : AA) (gb : AA) (ga : AA) (lc : Int32) (lk : AA) (ln : AA) (lt : AA) (ll : AA) (lr : AA) (tw : Int32) (tn : AA) (tt : AA) (oo : LA) (a1 : Int32) (A : Nat → Prop) : Array Value → State → Outcome → State → Prop := va_Qi (S := LA) (fun r u => f_L_eventKind lc lk oo a1 = (r, u)) (fun u t => QW D [(cI, .int), (cJ, .long)] A (W_O cI cJ x0 g0 g1 g2 g3 g4 l0 l1 l2 l3 l4 l5 t0 t1 t2 o0 xr xt gn gu gb ga lc lk ln lt ll lr tw tn tt u) t) A
set_option maxHeartbeats 4000000 in
set_option maxRecDepth 100000 in
theorem c_L_eventKind (l : Launch)  (D : va_G) (cI : ClassId) (cJ : ClassId) (x0 g0 g1 g2 g3 g4 l0 l1 l2 l3 l4 l5 t0 t1 t2 o0 : Nat) (xr : Int32) (xt : Int32) (gn : AA) (gu : AA) (gb : AA) (ga : AA) (lc : Int32) (lk : AA) (ln : AA) (lt : AA) (ll : AA) (lr : AA) (tw : Int32) (tn : AA) (tt : AA) (oo : LA) (sz : Nat) (a1 : Int32) (hp : p_L_eventKind lc lk a1) (hst : l.stackTraces = false) : Met l yL_eventKind wsL_eventKind rm_L_eventKind (va_Pc [.ref x0, .int a1, .ref o0] (PX D [(cI, .int), (cJ, .long)] sz (W_O cI cJ x0 g0 g1 g2 g3 g4 l0 l1 l2 l3 l4 l5 t0 t1 t2 o0 xr xt gn gu gb ga lc lk ln lt ll lr tw tn tt oo))) (Q_L_eventKind D cI cJ x0 g0 g1 g2 g3 g4 l0 l1 l2 l3 l4 l5 t0 t1 t2 o0 xr xt gn gu gb ga lc lk ln lt ll lr tw tn tt oo a1 (va_A (W_O cI cJ x0 g0 g1 g2 g3 g4 l0 l1 l2 l3 l4 l5 t0 t1 t2 o0 xr xt gn gu gb ga lc lk ln lt ll lr tw tn tt oo) sz)) 1 6 (va_A (W_O cI cJ x0 g0 g1 g2 g3 g4 l0 l1 l2 l3 l4 l5 t0 t1 t2 o0 xr xt gn gu gb ga lc lk ln lt ll lr tw tn tt oo) sz) := by
  refine va_MetW (cc := cL_eventKind) (maxL := 4) (ret := (some .int)) (hh := [(0, 9, 12, 13)]) (by decide) rfl ?_
  intro p e s m args below meth c s₁ B hml hv
  obtain ⟨rfl, ⟨hsz, hP, hK, hD0, hN⟩, hXB⟩ := hv
  have hx := B.exec
  have hb := B.bytes
  have hr := B.returns
  have hts := atoms_spec (ws := wsL_eventKind) B.pre
  have hown : s.vm.findClass RL = some m.cls := findClass_of_methodNamed B.named
  have hlocks := B.notSynchronized
  have htab := vx_table (x := yL_eventKind) B (hts (.codeWith yL_eventKind cL_eventKind 4 (some .int) [(0, 9, 12, 13)]) (by decide +kernel))
  subst hsz
  have hD := hD0.self (sz := s.heap.size)
  generalize hAe : va_A (W_O cI cJ x0 g0 g1 g2 g3 g4 l0 l1 l2 l3 l4 l5 t0 t1 t2 o0 xr xt gn gu gb ga lc lk ln lt ll lr tw tn tt oo) s.heap.size = A at hD hXB ⊢
  have hA : ∀ q : Nat, s.heap.size ≤ q → A q := fun q h => by rw [← hAe]; exact Or.inr h
  have hS : va_S A s.heap s.heap [] := va_S.rf
  have hl := lv_entry ([.ref x0, .int a1, .ref o0]) (n := 4) (Nat.le_of_ble_eq_true rfl)
  rw [lg_entry_eq]
  generalize (lg_sl ([.ref x0, .int a1, .ref o0]) ++ List.replicate (4 - (lg_sl ([.ref x0, .int a1, .ref o0])).length) Slot.unset).toArray = ls at hl ⊢
  have hl : lv_has ls 4 [(0, .ref x0), (1, .int a1), (2, .ref o0)] := hl
  have he := f_L_eventKind.eq_1 lc lk oo a1
  replace hp := Eq.mp (p_L_eventKind.eq_1 ..) hp
  refine lv_aload_n hx hb dL_eventKind_0 rfl (lv_at hl 2 rfl) ?_
  refine lv_iconst (v := 0) hx hb dL_eventKind_1 (by decide) ?_
  refine lv_aload_n hx hb dL_eventKind_2 rfl (lv_at hl 0 rfl) ?_
  refine lv_iload_n hx hb dL_eventKind_3 rfl (lv_at hl 1 rfl) ?_
  have hq1 := hp.1
  replace hp := hp.2
  refine k_xcalli (S := Unit) (px := fun E => f_X4_eventKind lc lk a1 = .inl E ∧ (E = eIO)) (wc := (W_X4 cI x0 g0 g1 g2 g3 g4 l0 l1 l2 l3 l4 l5 t0 t1 t2 xr xt gn gu gb ga lc lk ln lt ll lr tw tn tt)) (wr := [(o0, .inl (cJ, 1, .inr (.inl oo)))]) (w1 := fun u => (W_X4 cI x0 g0 g1 g2 g3 g4 l0 l1 l2 l3 l4 l5 t0 t1 t2 xr xt gn gu gb ga lc lk ln lt ll lr tw tn tt)) (fun u => (W_O cI cJ x0 g0 g1 g2 g3 g4 l0 l1 l2 l3 l4 l5 t0 t1 t2 o0 xr xt gn gu gb ga lc lk ln lt ll lr tw tn tt oo)) hP (hK.sub [0] rfl) hD hN hXB hS hA [0, 1, 2, 3, 4, 5, 6, 7, 8, 9, 10, 11, 12, 13, 14] [15] rfl rfl (by decide) (by decide) (by decide) [1, 2, 3, 4, 5, 6, 7, 8, 9, 10, 11, 12, 13, 14, 15, 0] (by decide) (fun _ => rfl) rfl (fun hg => vx_runV (As := [.int a1]) (rest := [.int 0, .ref o0]) ⟨hx, hb, hml, hown, hts⟩ (c_X4_eventKind l D cI x0 g0 g1 g2 g3 g4 l0 l1 l2 l3 l4 l5 t0 t1 t2 xr xt gn gu gb ga lc lk ln lt ll lr tw tn tt _ a1 hq1 hst) (cwV 1 hts gL_eventKind_X4_eventKind rfl rfl rfl (by decide +kernel) ⟨Nat.le_of_ble_eq_true rfl, Nat.le_of_ble_eq_true rfl⟩) ⟨PX.blind, va_recv hK hP (ci := 4) (q0 := 0) rfl rfl, fun U hU hW => ⟨rfl, hg U hU hW⟩⟩ rfl rfl hl.1 rfl (lv_room (Nat.le_of_ble_eq_true rfl)) dL_eventKind_4 ⟨Nat.le_of_ble_eq_true rfl, Nat.le_of_ble_eq_true rfl⟩) (fun E ce q9 H locs hw hP hD hS hc9 hv9 hcl9 => ?_) (fun r1 u H locs hw hP hD hS => ?_)
  · rw [hw.1] at he
    try dsimp only at he
    have hE := hw.2
    subst hE
    refine vx_catch (own := RL) (name := eIO) hown [] ⟨0, 9, 12, 13⟩ [] htab (fun z hz => absurd hz List.not_mem_nil) (by decide) (by decide) (hts (.classLink RL 13 eIO) (by decide +kernel)) (hXB.cast (w := .castable eIO eIO) (by decide +kernel)) hc9 hv9 hcl9 ?_
    refine lv_astore_n (lv' := [(3, .ref q9), (0, .ref x0), (1, .int a1), (2, .ref o0)]) hx hb dL_eventKind_12 rfl hl (by decide) rfl (fun ls hl => ?_)
    refine lv_iconst (v := 1) hx hb dL_eventKind_13 (by decide) ?_
    exact W.iret (v := 1) hx hb hr (fun t ht hW => ⟨⟨1, oo, rfl, he, by rw [ht]; exact hP, va_K.moved hW.alike hK, hD⟩, hS.F ht⟩) hS.2.2 dL_eventKind_14
  · rw [hw] at he
    try dsimp only at he
    replace hp := hp r1 hw
    refine lv_i2l (v := (r1).toInt64) hx hb dL_eventKind_7 rfl ?_
    refine va_last hx hb hK hP hD hS 15 1 rfl rfl (by unfold vp_in; decide) dL_eventKind_8 (fun H locs hP hD hS => ?_)
    have hP : va_P D vwCl (W_O cI cJ x0 g0 g1 g2 g3 g4 l0 l1 l2 l3 l4 l5 t0 t1 t2 o0 xr xt gn gu gb ga lc lk ln lt ll lr tw tn tt (vp_updL oo (0 : Int32).toNatClampNeg ((r1).toInt64))) H := hP
    have hD : va_D A (W_O cI cJ x0 g0 g1 g2 g3 g4 l0 l1 l2 l3 l4 l5 t0 t1 t2 o0 xr xt gn gu gb ga lc lk ln lt ll lr tw tn tt (vp_updL oo (0 : Int32).toNatClampNeg ((r1).toInt64))) := hD
    refine lv_goto (tgt := 15) hx hb dL_eventKind_9 (by decide) ?_
    refine lv_iconst (v := 0) hx hb dL_eventKind_15 (by decide) ?_
    exact W.iret (v := 0) hx hb hr (fun t ht hW => ⟨⟨0, (vp_updL oo (0 : Int32).toNatClampNeg ((r1).toInt64)), rfl, he, by rw [ht]; exact hP, va_K.moved hW.alike hK, hD⟩, hS.F ht⟩) hS.2.2 dL_eventKind_16
abbrev rm_L_eventNode : Room := { frames := 8, cells := 1, slots := 6, locals := 124 }
abbrev Q_L_eventNode (D : va_G) (cI : ClassId) (cJ : ClassId) (x0 g0 g1 g2 g3 g4 l0 l1 l2 l3 l4 l5 t0 t1 t2 o0 : Nat) (xr : Int32) (xt : Int32) (gn : AA) (gu : AA) (gb : AA) (ga : AA) (lc : Int32) (lk : AA) (ln : AA) (lt : AA) (ll : AA) (lr : AA) (tw : Int32) (tn : AA) (tt : AA) (oo : LA) (a1 : Int32) (A : Nat → Prop) : Array Value → State → Outcome → State → Prop := va_Qi (S := LA) (fun r u => f_L_eventNode lc ln oo a1 = (r, u)) (fun u t => QW D [(cI, .int), (cJ, .long)] A (W_O cI cJ x0 g0 g1 g2 g3 g4 l0 l1 l2 l3 l4 l5 t0 t1 t2 o0 xr xt gn gu gb ga lc lk ln lt ll lr tw tn tt u) t) A
set_option maxHeartbeats 4000000 in
set_option maxRecDepth 100000 in
theorem c_L_eventNode (l : Launch)  (D : va_G) (cI : ClassId) (cJ : ClassId) (x0 g0 g1 g2 g3 g4 l0 l1 l2 l3 l4 l5 t0 t1 t2 o0 : Nat) (xr : Int32) (xt : Int32) (gn : AA) (gu : AA) (gb : AA) (ga : AA) (lc : Int32) (lk : AA) (ln : AA) (lt : AA) (ll : AA) (lr : AA) (tw : Int32) (tn : AA) (tt : AA) (oo : LA) (sz : Nat) (a1 : Int32) (hp : p_L_eventNode lc ln a1) (hst : l.stackTraces = false) : Met l yL_eventNode wsL_eventNode rm_L_eventNode (va_Pc [.ref x0, .int a1, .ref o0] (PX D [(cI, .int), (cJ, .long)] sz (W_O cI cJ x0 g0 g1 g2 g3 g4 l0 l1 l2 l3 l4 l5 t0 t1 t2 o0 xr xt gn gu gb ga lc lk ln lt ll lr tw tn tt oo))) (Q_L_eventNode D cI cJ x0 g0 g1 g2 g3 g4 l0 l1 l2 l3 l4 l5 t0 t1 t2 o0 xr xt gn gu gb ga lc lk ln lt ll lr tw tn tt oo a1 (va_A (W_O cI cJ x0 g0 g1 g2 g3 g4 l0 l1 l2 l3 l4 l5 t0 t1 t2 o0 xr xt gn gu gb ga lc lk ln lt ll lr tw tn tt oo) sz)) 1 6 (va_A (W_O cI cJ x0 g0 g1 g2 g3 g4 l0 l1 l2 l3 l4 l5 t0 t1 t2 o0 xr xt gn gu gb ga lc lk ln lt ll lr tw tn tt oo) sz) := by
  refine va_MetW (cc := cL_eventNode) (maxL := 4) (ret := (some .int)) (hh := [(0, 9, 12, 13)]) (by decide) rfl ?_
  intro p e s m args below meth c s₁ B hml hv
  obtain ⟨rfl, ⟨hsz, hP, hK, hD0, hN⟩, hXB⟩ := hv
  have hx := B.exec
  have hb := B.bytes
  have hr := B.returns
  have hts := atoms_spec (ws := wsL_eventNode) B.pre
  have hown : s.vm.findClass RL = some m.cls := findClass_of_methodNamed B.named
  have hlocks := B.notSynchronized
  have htab := vx_table (x := yL_eventNode) B (hts (.codeWith yL_eventNode cL_eventNode 4 (some .int) [(0, 9, 12, 13)]) (by decide +kernel))
  subst hsz
  have hD := hD0.self (sz := s.heap.size)
  generalize hAe : va_A (W_O cI cJ x0 g0 g1 g2 g3 g4 l0 l1 l2 l3 l4 l5 t0 t1 t2 o0 xr xt gn gu gb ga lc lk ln lt ll lr tw tn tt oo) s.heap.size = A at hD hXB ⊢
  have hA : ∀ q : Nat, s.heap.size ≤ q → A q := fun q h => by rw [← hAe]; exact Or.inr h
  have hS : va_S A s.heap s.heap [] := va_S.rf
  have hl := lv_entry ([.ref x0, .int a1, .ref o0]) (n := 4) (Nat.le_of_ble_eq_true rfl)
  rw [lg_entry_eq]
  generalize (lg_sl ([.ref x0, .int a1, .ref o0]) ++ List.replicate (4 - (lg_sl ([.ref x0, .int a1, .ref o0])).length) Slot.unset).toArray = ls at hl ⊢
  have hl : lv_has ls 4 [(0, .ref x0), (1, .int a1), (2, .ref o0)] := hl
  have he := f_L_eventNode.eq_1 lc ln oo a1
  replace hp := Eq.mp (p_L_eventNode.eq_1 ..) hp
  refine lv_aload_n hx hb dL_eventNode_0 rfl (lv_at hl 2 rfl) ?_
  refine lv_iconst (v := 0) hx hb dL_eventNode_1 (by decide) ?_
  refine lv_aload_n hx hb dL_eventNode_2 rfl (lv_at hl 0 rfl) ?_
  refine lv_iload_n hx hb dL_eventNode_3 rfl (lv_at hl 1 rfl) ?_
  have hq1 := hp.1
  replace hp := hp.2
  refine k_xcalli (S := Unit) (px := fun E => f_X4_eventNode lc ln a1 = .inl E ∧ (E = eIO)) (wc := (W_X4 cI x0 g0 g1 g2 g3 g4 l0 l1 l2 l3 l4 l5 t0 t1 t2 xr xt gn gu gb ga lc lk ln lt ll lr tw tn tt)) (wr := [(o0, .inl (cJ, 1, .inr (.inl oo)))]) (w1 := fun u => (W_X4 cI x0 g0 g1 g2 g3 g4 l0 l1 l2 l3 l4 l5 t0 t1 t2 xr xt gn gu gb ga lc lk ln lt ll lr tw tn tt)) (fun u => (W_O cI cJ x0 g0 g1 g2 g3 g4 l0 l1 l2 l3 l4 l5 t0 t1 t2 o0 xr xt gn gu gb ga lc lk ln lt ll lr tw tn tt oo)) hP (hK.sub [0] rfl) hD hN hXB hS hA [0, 1, 2, 3, 4, 5, 6, 7, 8, 9, 10, 11, 12, 13, 14] [15] rfl rfl (by decide) (by decide) (by decide) [1, 2, 3, 4, 5, 6, 7, 8, 9, 10, 11, 12, 13, 14, 15, 0] (by decide) (fun _ => rfl) rfl (fun hg => vx_runV (As := [.int a1]) (rest := [.int 0, .ref o0]) ⟨hx, hb, hml, hown, hts⟩ (c_X4_eventNode l D cI x0 g0 g1 g2 g3 g4 l0 l1 l2 l3 l4 l5 t0 t1 t2 xr xt gn gu gb ga lc lk ln lt ll lr tw tn tt _ a1 hq1 hst) (cwV 1 hts gL_eventNode_X4_eventNode rfl rfl rfl (by decide +kernel) ⟨Nat.le_of_ble_eq_true rfl, Nat.le_of_ble_eq_true rfl⟩) ⟨PX.blind, va_recv hK hP (ci := 4) (q0 := 0) rfl rfl, fun U hU hW => ⟨rfl, hg U hU hW⟩⟩ rfl rfl hl.1 rfl (lv_room (Nat.le_of_ble_eq_true rfl)) dL_eventNode_4 ⟨Nat.le_of_ble_eq_true rfl, Nat.le_of_ble_eq_true rfl⟩) (fun E ce q9 H locs hw hP hD hS hc9 hv9 hcl9 => ?_) (fun r1 u H locs hw hP hD hS => ?_)
  · rw [hw.1] at he
    try dsimp only at he
    have hE := hw.2
    subst hE
    refine vx_catch (own := RL) (name := eIO) hown [] ⟨0, 9, 12, 13⟩ [] htab (fun z hz => absurd hz List.not_mem_nil) (by decide) (by decide) (hts (.classLink RL 13 eIO) (by decide +kernel)) (hXB.cast (w := .castable eIO eIO) (by decide +kernel)) hc9 hv9 hcl9 ?_
    refine lv_astore_n (lv' := [(3, .ref q9), (0, .ref x0), (1, .int a1), (2, .ref o0)]) hx hb dL_eventNode_12 rfl hl (by decide) rfl (fun ls hl => ?_)
    refine lv_iconst (v := 1) hx hb dL_eventNode_13 (by decide) ?_
    exact W.iret (v := 1) hx hb hr (fun t ht hW => ⟨⟨1, oo, rfl, he, by rw [ht]; exact hP, va_K.moved hW.alike hK, hD⟩, hS.F ht⟩) hS.2.2 dL_eventNode_14
  · rw [hw] at he
    try dsimp only at he
    replace hp := hp r1 hw
    refine lv_i2l (v := (r1).toInt64) hx hb dL_eventNode_7 rfl ?_
    refine va_last hx hb hK hP hD hS 15 1 rfl rfl (by unfold vp_in; decide) dL_eventNode_8 (fun H locs hP hD hS => ?_)
    have hP : va_P D vwCl (W_O cI cJ x0 g0 g1 g2 g3 g4 l0 l1 l2 l3 l4 l5 t0 t1 t2 o0 xr xt gn gu gb ga lc lk ln lt ll lr tw tn tt (vp_updL oo (0 : Int32).toNatClampNeg ((r1).toInt64))) H := hP
    have hD : va_D A (W_O cI cJ x0 g0 g1 g2 g3 g4 l0 l1 l2 l3 l4 l5 t0 t1 t2 o0 xr xt gn gu gb ga lc lk ln lt ll lr tw tn tt (vp_updL oo (0 : Int32).toNatClampNeg ((r1).toInt64))) := hD
    refine lv_goto (tgt := 15) hx hb dL_eventNode_9 (by decide) ?_
    refine lv_iconst (v := 0) hx hb dL_eventNode_15 (by decide) ?_
    exact W.iret (v := 0) hx hb hr (fun t ht hW => ⟨⟨0, (vp_updL oo (0 : Int32).toNatClampNeg ((r1).toInt64)), rfl, he, by rw [ht]; exact hP, va_K.moved hW.alike hK, hD⟩, hS.F ht⟩) hS.2.2 dL_eventNode_16
abbrev rm_L_eventTime : Room := { frames := 8, cells := 1, slots := 6, locals := 124 }
abbrev Q_L_eventTime (D : va_G) (cI : ClassId) (cJ : ClassId) (x0 g0 g1 g2 g3 g4 l0 l1 l2 l3 l4 l5 t0 t1 t2 o0 : Nat) (xr : Int32) (xt : Int32) (gn : AA) (gu : AA) (gb : AA) (ga : AA) (lc : Int32) (lk : AA) (ln : AA) (lt : AA) (ll : AA) (lr : AA) (tw : Int32) (tn : AA) (tt : AA) (oo : LA) (a1 : Int32) (A : Nat → Prop) : Array Value → State → Outcome → State → Prop := va_Qi (S := LA) (fun r u => f_L_eventTime lc lt oo a1 = (r, u)) (fun u t => QW D [(cI, .int), (cJ, .long)] A (W_O cI cJ x0 g0 g1 g2 g3 g4 l0 l1 l2 l3 l4 l5 t0 t1 t2 o0 xr xt gn gu gb ga lc lk ln lt ll lr tw tn tt u) t) A
set_option maxHeartbeats 4000000 in
set_option maxRecDepth 100000 in
theorem c_L_eventTime (l : Launch)  (D : va_G) (cI : ClassId) (cJ : ClassId) (x0 g0 g1 g2 g3 g4 l0 l1 l2 l3 l4 l5 t0 t1 t2 o0 : Nat) (xr : Int32) (xt : Int32) (gn : AA) (gu : AA) (gb : AA) (ga : AA) (lc : Int32) (lk : AA) (ln : AA) (lt : AA) (ll : AA) (lr : AA) (tw : Int32) (tn : AA) (tt : AA) (oo : LA) (sz : Nat) (a1 : Int32) (hp : p_L_eventTime lc lt a1) (hst : l.stackTraces = false) : Met l yL_eventTime wsL_eventTime rm_L_eventTime (va_Pc [.ref x0, .int a1, .ref o0] (PX D [(cI, .int), (cJ, .long)] sz (W_O cI cJ x0 g0 g1 g2 g3 g4 l0 l1 l2 l3 l4 l5 t0 t1 t2 o0 xr xt gn gu gb ga lc lk ln lt ll lr tw tn tt oo))) (Q_L_eventTime D cI cJ x0 g0 g1 g2 g3 g4 l0 l1 l2 l3 l4 l5 t0 t1 t2 o0 xr xt gn gu gb ga lc lk ln lt ll lr tw tn tt oo a1 (va_A (W_O cI cJ x0 g0 g1 g2 g3 g4 l0 l1 l2 l3 l4 l5 t0 t1 t2 o0 xr xt gn gu gb ga lc lk ln lt ll lr tw tn tt oo) sz)) 1 6 (va_A (W_O cI cJ x0 g0 g1 g2 g3 g4 l0 l1 l2 l3 l4 l5 t0 t1 t2 o0 xr xt gn gu gb ga lc lk ln lt ll lr tw tn tt oo) sz) := by
  refine va_MetW (cc := cL_eventTime) (maxL := 4) (ret := (some .int)) (hh := [(0, 9, 12, 13)]) (by decide) rfl ?_
  intro p e s m args below meth c s₁ B hml hv
  obtain ⟨rfl, ⟨hsz, hP, hK, hD0, hN⟩, hXB⟩ := hv
  have hx := B.exec
  have hb := B.bytes
  have hr := B.returns
  have hts := atoms_spec (ws := wsL_eventTime) B.pre
  have hown : s.vm.findClass RL = some m.cls := findClass_of_methodNamed B.named
  have hlocks := B.notSynchronized
  have htab := vx_table (x := yL_eventTime) B (hts (.codeWith yL_eventTime cL_eventTime 4 (some .int) [(0, 9, 12, 13)]) (by decide +kernel))
  subst hsz
  have hD := hD0.self (sz := s.heap.size)
  generalize hAe : va_A (W_O cI cJ x0 g0 g1 g2 g3 g4 l0 l1 l2 l3 l4 l5 t0 t1 t2 o0 xr xt gn gu gb ga lc lk ln lt ll lr tw tn tt oo) s.heap.size = A at hD hXB ⊢
  have hA : ∀ q : Nat, s.heap.size ≤ q → A q := fun q h => by rw [← hAe]; exact Or.inr h
  have hS : va_S A s.heap s.heap [] := va_S.rf
  have hl := lv_entry ([.ref x0, .int a1, .ref o0]) (n := 4) (Nat.le_of_ble_eq_true rfl)
  rw [lg_entry_eq]
  generalize (lg_sl ([.ref x0, .int a1, .ref o0]) ++ List.replicate (4 - (lg_sl ([.ref x0, .int a1, .ref o0])).length) Slot.unset).toArray = ls at hl ⊢
  have hl : lv_has ls 4 [(0, .ref x0), (1, .int a1), (2, .ref o0)] := hl
  have he := f_L_eventTime.eq_1 lc lt oo a1
  replace hp := Eq.mp (p_L_eventTime.eq_1 ..) hp
  refine lv_aload_n hx hb dL_eventTime_0 rfl (lv_at hl 2 rfl) ?_
  refine lv_iconst (v := 0) hx hb dL_eventTime_1 (by decide) ?_
  refine lv_aload_n hx hb dL_eventTime_2 rfl (lv_at hl 0 rfl) ?_
  refine lv_iload_n hx hb dL_eventTime_3 rfl (lv_at hl 1 rfl) ?_
  have hq1 := hp.1
  replace hp := hp.2
  refine k_xcalli (S := Unit) (px := fun E => f_X4_eventTime lc lt a1 = .inl E ∧ (E = eIO)) (wc := (W_X4 cI x0 g0 g1 g2 g3 g4 l0 l1 l2 l3 l4 l5 t0 t1 t2 xr xt gn gu gb ga lc lk ln lt ll lr tw tn tt)) (wr := [(o0, .inl (cJ, 1, .inr (.inl oo)))]) (w1 := fun u => (W_X4 cI x0 g0 g1 g2 g3 g4 l0 l1 l2 l3 l4 l5 t0 t1 t2 xr xt gn gu gb ga lc lk ln lt ll lr tw tn tt)) (fun u => (W_O cI cJ x0 g0 g1 g2 g3 g4 l0 l1 l2 l3 l4 l5 t0 t1 t2 o0 xr xt gn gu gb ga lc lk ln lt ll lr tw tn tt oo)) hP (hK.sub [0] rfl) hD hN hXB hS hA [0, 1, 2, 3, 4, 5, 6, 7, 8, 9, 10, 11, 12, 13, 14] [15] rfl rfl (by decide) (by decide) (by decide) [1, 2, 3, 4, 5, 6, 7, 8, 9, 10, 11, 12, 13, 14, 15, 0] (by decide) (fun _ => rfl) rfl (fun hg => vx_runV (As := [.int a1]) (rest := [.int 0, .ref o0]) ⟨hx, hb, hml, hown, hts⟩ (c_X4_eventTime l D cI x0 g0 g1 g2 g3 g4 l0 l1 l2 l3 l4 l5 t0 t1 t2 xr xt gn gu gb ga lc lk ln lt ll lr tw tn tt _ a1 hq1 hst) (cwV 1 hts gL_eventTime_X4_eventTime rfl rfl rfl (by decide +kernel) ⟨Nat.le_of_ble_eq_true rfl, Nat.le_of_ble_eq_true rfl⟩) ⟨PX.blind, va_recv hK hP (ci := 4) (q0 := 0) rfl rfl, fun U hU hW => ⟨rfl, hg U hU hW⟩⟩ rfl rfl hl.1 rfl (lv_room (Nat.le_of_ble_eq_true rfl)) dL_eventTime_4 ⟨Nat.le_of_ble_eq_true rfl, Nat.le_of_ble_eq_true rfl⟩) (fun E ce q9 H locs hw hP hD hS hc9 hv9 hcl9 => ?_) (fun r1 u H locs hw hP hD hS => ?_)
  · rw [hw.1] at he
    try dsimp only at he
    have hE := hw.2
    subst hE
    refine vx_catch (own := RL) (name := eIO) hown [] ⟨0, 9, 12, 13⟩ [] htab (fun z hz => absurd hz List.not_mem_nil) (by decide) (by decide) (hts (.classLink RL 13 eIO) (by decide +kernel)) (hXB.cast (w := .castable eIO eIO) (by decide +kernel)) hc9 hv9 hcl9 ?_
    refine lv_astore_n (lv' := [(3, .ref q9), (0, .ref x0), (1, .int a1), (2, .ref o0)]) hx hb dL_eventTime_12 rfl hl (by decide) rfl (fun ls hl => ?_)
    refine lv_iconst (v := 1) hx hb dL_eventTime_13 (by decide) ?_
    exact W.iret (v := 1) hx hb hr (fun t ht hW => ⟨⟨1, oo, rfl, he, by rw [ht]; exact hP, va_K.moved hW.alike hK, hD⟩, hS.F ht⟩) hS.2.2 dL_eventTime_14
  · rw [hw] at he
    try dsimp only at he
    replace hp := hp r1 hw
    refine lv_i2l (v := (r1).toInt64) hx hb dL_eventTime_7 rfl ?_
    refine va_last hx hb hK hP hD hS 15 1 rfl rfl (by unfold vp_in; decide) dL_eventTime_8 (fun H locs hP hD hS => ?_)
    have hP : va_P D vwCl (W_O cI cJ x0 g0 g1 g2 g3 g4 l0 l1 l2 l3 l4 l5 t0 t1 t2 o0 xr xt gn gu gb ga lc lk ln lt ll lr tw tn tt (vp_updL oo (0 : Int32).toNatClampNeg ((r1).toInt64))) H := hP
    have hD : va_D A (W_O cI cJ x0 g0 g1 g2 g3 g4 l0 l1 l2 l3 l4 l5 t0 t1 t2 o0 xr xt gn gu gb ga lc lk ln lt ll lr tw tn tt (vp_updL oo (0 : Int32).toNatClampNeg ((r1).toInt64))) := hD
    refine lv_goto (tgt := 15) hx hb dL_eventTime_9 (by decide) ?_
    refine lv_iconst (v := 0) hx hb dL_eventTime_15 (by decide) ?_
    exact W.iret (v := 0) hx hb hr (fun t ht hW => ⟨⟨0, (vp_updL oo (0 : Int32).toNatClampNeg ((r1).toInt64)), rfl, he, by rw [ht]; exact hP, va_K.moved hW.alike hK, hD⟩, hS.F ht⟩) hS.2.2 dL_eventTime_16
abbrev rm_L_eventLength : Room := { frames := 8, cells := 1, slots := 6, locals := 124 }
abbrev Q_L_eventLength (D : va_G) (cI : ClassId) (cJ : ClassId) (x0 g0 g1 g2 g3 g4 l0 l1 l2 l3 l4 l5 t0 t1 t2 o0 : Nat) (xr : Int32) (xt : Int32) (gn : AA) (gu : AA) (gb : AA) (ga : AA) (lc : Int32) (lk : AA) (ln : AA) (lt : AA) (ll : AA) (lr : AA) (tw : Int32) (tn : AA) (tt : AA) (oo : LA) (a1 : Int32) (A : Nat → Prop) : Array Value → State → Outcome → State → Prop := va_Qi (S := LA) (fun r u => f_L_eventLength lc ll oo a1 = (r, u)) (fun u t => QW D [(cI, .int), (cJ, .long)] A (W_O cI cJ x0 g0 g1 g2 g3 g4 l0 l1 l2 l3 l4 l5 t0 t1 t2 o0 xr xt gn gu gb ga lc lk ln lt ll lr tw tn tt u) t) A
set_option maxHeartbeats 4000000 in
set_option maxRecDepth 100000 in
theorem c_L_eventLength (l : Launch)  (D : va_G) (cI : ClassId) (cJ : ClassId) (x0 g0 g1 g2 g3 g4 l0 l1 l2 l3 l4 l5 t0 t1 t2 o0 : Nat) (xr : Int32) (xt : Int32) (gn : AA) (gu : AA) (gb : AA) (ga : AA) (lc : Int32) (lk : AA) (ln : AA) (lt : AA) (ll : AA) (lr : AA) (tw : Int32) (tn : AA) (tt : AA) (oo : LA) (sz : Nat) (a1 : Int32) (hp : p_L_eventLength lc ll a1) (hst : l.stackTraces = false) : Met l yL_eventLength wsL_eventLength rm_L_eventLength (va_Pc [.ref x0, .int a1, .ref o0] (PX D [(cI, .int), (cJ, .long)] sz (W_O cI cJ x0 g0 g1 g2 g3 g4 l0 l1 l2 l3 l4 l5 t0 t1 t2 o0 xr xt gn gu gb ga lc lk ln lt ll lr tw tn tt oo))) (Q_L_eventLength D cI cJ x0 g0 g1 g2 g3 g4 l0 l1 l2 l3 l4 l5 t0 t1 t2 o0 xr xt gn gu gb ga lc lk ln lt ll lr tw tn tt oo a1 (va_A (W_O cI cJ x0 g0 g1 g2 g3 g4 l0 l1 l2 l3 l4 l5 t0 t1 t2 o0 xr xt gn gu gb ga lc lk ln lt ll lr tw tn tt oo) sz)) 1 6 (va_A (W_O cI cJ x0 g0 g1 g2 g3 g4 l0 l1 l2 l3 l4 l5 t0 t1 t2 o0 xr xt gn gu gb ga lc lk ln lt ll lr tw tn tt oo) sz) := by
  refine va_MetW (cc := cL_eventLength) (maxL := 4) (ret := (some .int)) (hh := [(0, 9, 12, 13)]) (by decide) rfl ?_
  intro p e s m args below meth c s₁ B hml hv
  obtain ⟨rfl, ⟨hsz, hP, hK, hD0, hN⟩, hXB⟩ := hv
  have hx := B.exec
  have hb := B.bytes
  have hr := B.returns
  have hts := atoms_spec (ws := wsL_eventLength) B.pre
  have hown : s.vm.findClass RL = some m.cls := findClass_of_methodNamed B.named
  have hlocks := B.notSynchronized
  have htab := vx_table (x := yL_eventLength) B (hts (.codeWith yL_eventLength cL_eventLength 4 (some .int) [(0, 9, 12, 13)]) (by decide +kernel))
  subst hsz
  have hD := hD0.self (sz := s.heap.size)
  generalize hAe : va_A (W_O cI cJ x0 g0 g1 g2 g3 g4 l0 l1 l2 l3 l4 l5 t0 t1 t2 o0 xr xt gn gu gb ga lc lk ln lt ll lr tw tn tt oo) s.heap.size = A at hD hXB ⊢
  have hA : ∀ q : Nat, s.heap.size ≤ q → A q := fun q h => by rw [← hAe]; exact Or.inr h
  have hS : va_S A s.heap s.heap [] := va_S.rf
  have hl := lv_entry ([.ref x0, .int a1, .ref o0]) (n := 4) (Nat.le_of_ble_eq_true rfl)
  rw [lg_entry_eq]
  generalize (lg_sl ([.ref x0, .int a1, .ref o0]) ++ List.replicate (4 - (lg_sl ([.ref x0, .int a1, .ref o0])).length) Slot.unset).toArray = ls at hl ⊢
  have hl : lv_has ls 4 [(0, .ref x0), (1, .int a1), (2, .ref o0)] := hl
  have he := f_L_eventLength.eq_1 lc ll oo a1
  replace hp := Eq.mp (p_L_eventLength.eq_1 ..) hp
  refine lv_aload_n hx hb dL_eventLength_0 rfl (lv_at hl 2 rfl) ?_
  refine lv_iconst (v := 0) hx hb dL_eventLength_1 (by decide) ?_
  refine lv_aload_n hx hb dL_eventLength_2 rfl (lv_at hl 0 rfl) ?_
  refine lv_iload_n hx hb dL_eventLength_3 rfl (lv_at hl 1 rfl) ?_
  have hq1 := hp.1
  replace hp := hp.2
  refine k_xcalli (S := Unit) (px := fun E => f_X4_eventLength lc ll a1 = .inl E ∧ (E = eIO)) (wc := (W_X4 cI x0 g0 g1 g2 g3 g4 l0 l1 l2 l3 l4 l5 t0 t1 t2 xr xt gn gu gb ga lc lk ln lt ll lr tw tn tt)) (wr := [(o0, .inl (cJ, 1, .inr (.inl oo)))]) (w1 := fun u => (W_X4 cI x0 g0 g1 g2 g3 g4 l0 l1 l2 l3 l4 l5 t0 t1 t2 xr xt gn gu gb ga lc lk ln lt ll lr tw tn tt)) (fun u => (W_O cI cJ x0 g0 g1 g2 g3 g4 l0 l1 l2 l3 l4 l5 t0 t1 t2 o0 xr xt gn gu gb ga lc lk ln lt ll lr tw tn tt oo)) hP (hK.sub [0] rfl) hD hN hXB hS hA [0, 1, 2, 3, 4, 5, 6, 7, 8, 9, 10, 11, 12, 13, 14] [15] rfl rfl (by decide) (by decide) (by decide) [1, 2, 3, 4, 5, 6, 7, 8, 9, 10, 11, 12, 13, 14, 15, 0] (by decide) (fun _ => rfl) rfl (fun hg => vx_runV (As := [.int a1]) (rest := [.int 0, .ref o0]) ⟨hx, hb, hml, hown, hts⟩ (c_X4_eventLength l D cI x0 g0 g1 g2 g3 g4 l0 l1 l2 l3 l4 l5 t0 t1 t2 xr xt gn gu gb ga lc lk ln lt ll lr tw tn tt _ a1 hq1 hst) (cwV 1 hts gL_eventLength_X4_eventLength rfl rfl rfl (by decide +kernel) ⟨Nat.le_of_ble_eq_true rfl, Nat.le_of_ble_eq_true rfl⟩) ⟨PX.blind, va_recv hK hP (ci := 4) (q0 := 0) rfl rfl, fun U hU hW => ⟨rfl, hg U hU hW⟩⟩ rfl rfl hl.1 rfl (lv_room (Nat.le_of_ble_eq_true rfl)) dL_eventLength_4 ⟨Nat.le_of_ble_eq_true rfl, Nat.le_of_ble_eq_true rfl⟩) (fun E ce q9 H locs hw hP hD hS hc9 hv9 hcl9 => ?_) (fun r1 u H locs hw hP hD hS => ?_)
  · rw [hw.1] at he
    try dsimp only at he
    have hE := hw.2
    subst hE
    refine vx_catch (own := RL) (name := eIO) hown [] ⟨0, 9, 12, 13⟩ [] htab (fun z hz => absurd hz List.not_mem_nil) (by decide) (by decide) (hts (.classLink RL 13 eIO) (by decide +kernel)) (hXB.cast (w := .castable eIO eIO) (by decide +kernel)) hc9 hv9 hcl9 ?_
    refine lv_astore_n (lv' := [(3, .ref q9), (0, .ref x0), (1, .int a1), (2, .ref o0)]) hx hb dL_eventLength_12 rfl hl (by decide) rfl (fun ls hl => ?_)
    refine lv_iconst (v := 1) hx hb dL_eventLength_13 (by decide) ?_
    exact W.iret (v := 1) hx hb hr (fun t ht hW => ⟨⟨1, oo, rfl, he, by rw [ht]; exact hP, va_K.moved hW.alike hK, hD⟩, hS.F ht⟩) hS.2.2 dL_eventLength_14
  · rw [hw] at he
    try dsimp only at he
    replace hp := hp r1 hw
    refine lv_i2l (v := (r1).toInt64) hx hb dL_eventLength_7 rfl ?_
    refine va_last hx hb hK hP hD hS 15 1 rfl rfl (by unfold vp_in; decide) dL_eventLength_8 (fun H locs hP hD hS => ?_)
    have hP : va_P D vwCl (W_O cI cJ x0 g0 g1 g2 g3 g4 l0 l1 l2 l3 l4 l5 t0 t1 t2 o0 xr xt gn gu gb ga lc lk ln lt ll lr tw tn tt (vp_updL oo (0 : Int32).toNatClampNeg ((r1).toInt64))) H := hP
    have hD : va_D A (W_O cI cJ x0 g0 g1 g2 g3 g4 l0 l1 l2 l3 l4 l5 t0 t1 t2 o0 xr xt gn gu gb ga lc lk ln lt ll lr tw tn tt (vp_updL oo (0 : Int32).toNatClampNeg ((r1).toInt64))) := hD
    refine lv_goto (tgt := 15) hx hb dL_eventLength_9 (by decide) ?_
    refine lv_iconst (v := 0) hx hb dL_eventLength_15 (by decide) ?_
    exact W.iret (v := 0) hx hb hr (fun t ht hW => ⟨⟨0, (vp_updL oo (0 : Int32).toNatClampNeg ((r1).toInt64)), rfl, he, by rw [ht]; exact hP, va_K.moved hW.alike hK, hD⟩, hS.F ht⟩) hS.2.2 dL_eventLength_16
abbrev rm_L_ticketOf : Room := { frames := 8, cells := 1, slots := 6, locals := 123 }
abbrev Q_L_ticketOf (D : va_G) (cI : ClassId) (cJ : ClassId) (x0 g0 g1 g2 g3 g4 l0 l1 l2 l3 l4 l5 t0 t1 t2 o0 : Nat) (xr : Int32) (xt : Int32) (gn : AA) (gu : AA) (gb : AA) (ga : AA) (lc : Int32) (lk : AA) (ln : AA) (lt : AA) (ll : AA) (lr : AA) (tw : Int32) (tn : AA) (tt : AA) (oo : LA) (a1 : Int32) (A : Nat → Prop) : Array Value → State → Outcome → State → Prop := va_Qi (S := LA) (fun r u => f_L_ticketOf tn oo a1 = (r, u)) (fun u t => QW D [(cI, .int), (cJ, .long)] A (W_O cI cJ x0 g0 g1 g2 g3 g4 l0 l1 l2 l3 l4 l5 t0 t1 t2 o0 xr xt gn gu gb ga lc lk ln lt ll lr tw tn tt u) t) A
set_option maxHeartbeats 4000000 in
set_option maxRecDepth 100000 in
theorem c_L_ticketOf (l : Launch)  (D : va_G) (cI : ClassId) (cJ : ClassId) (x0 g0 g1 g2 g3 g4 l0 l1 l2 l3 l4 l5 t0 t1 t2 o0 : Nat) (xr : Int32) (xt : Int32) (gn : AA) (gu : AA) (gb : AA) (ga : AA) (lc : Int32) (lk : AA) (ln : AA) (lt : AA) (ll : AA) (lr : AA) (tw : Int32) (tn : AA) (tt : AA) (oo : LA) (sz : Nat) (a1 : Int32) (hp : p_L_ticketOf tn a1) (hst : l.stackTraces = false) : Met l yL_ticketOf wsL_ticketOf rm_L_ticketOf (va_Pc [.ref x0, .int a1, .ref o0] (PX D [(cI, .int), (cJ, .long)] sz (W_O cI cJ x0 g0 g1 g2 g3 g4 l0 l1 l2 l3 l4 l5 t0 t1 t2 o0 xr xt gn gu gb ga lc lk ln lt ll lr tw tn tt oo))) (Q_L_ticketOf D cI cJ x0 g0 g1 g2 g3 g4 l0 l1 l2 l3 l4 l5 t0 t1 t2 o0 xr xt gn gu gb ga lc lk ln lt ll lr tw tn tt oo a1 (va_A (W_O cI cJ x0 g0 g1 g2 g3 g4 l0 l1 l2 l3 l4 l5 t0 t1 t2 o0 xr xt gn gu gb ga lc lk ln lt ll lr tw tn tt oo) sz)) 1 6 (va_A (W_O cI cJ x0 g0 g1 g2 g3 g4 l0 l1 l2 l3 l4 l5 t0 t1 t2 o0 xr xt gn gu gb ga lc lk ln lt ll lr tw tn tt oo) sz) := by
  refine va_MetW (cc := cL_ticketOf) (maxL := 4) (ret := (some .int)) (hh := [(0, 9, 12, 13)]) (by decide) rfl ?_
  intro p e s m args below meth c s₁ B hml hv
  obtain ⟨rfl, ⟨hsz, hP, hK, hD0, hN⟩, hXB⟩ := hv
  have hx := B.exec
  have hb := B.bytes
  have hr := B.returns
  have hts := atoms_spec (ws := wsL_ticketOf) B.pre
  have hown : s.vm.findClass RL = some m.cls := findClass_of_methodNamed B.named
  have hlocks := B.notSynchronized
  have htab := vx_table (x := yL_ticketOf) B (hts (.codeWith yL_ticketOf cL_ticketOf 4 (some .int) [(0, 9, 12, 13)]) (by decide +kernel))
  subst hsz
  have hD := hD0.self (sz := s.heap.size)
  generalize hAe : va_A (W_O cI cJ x0 g0 g1 g2 g3 g4 l0 l1 l2 l3 l4 l5 t0 t1 t2 o0 xr xt gn gu gb ga lc lk ln lt ll lr tw tn tt oo) s.heap.size = A at hD hXB ⊢
  have hA : ∀ q : Nat, s.heap.size ≤ q → A q := fun q h => by rw [← hAe]; exact Or.inr h
  have hS : va_S A s.heap s.heap [] := va_S.rf
  have hl := lv_entry ([.ref x0, .int a1, .ref o0]) (n := 4) (Nat.le_of_ble_eq_true rfl)
  rw [lg_entry_eq]
  generalize (lg_sl ([.ref x0, .int a1, .ref o0]) ++ List.replicate (4 - (lg_sl ([.ref x0, .int a1, .ref o0])).length) Slot.unset).toArray = ls at hl ⊢
  have hl : lv_has ls 4 [(0, .ref x0), (1, .int a1), (2, .ref o0)] := hl
  have he := f_L_ticketOf.eq_1 tn oo a1
  replace hp := Eq.mp (p_L_ticketOf.eq_1 ..) hp
  refine lv_aload_n hx hb dL_ticketOf_0 rfl (lv_at hl 2 rfl) ?_
  refine lv_iconst (v := 0) hx hb dL_ticketOf_1 (by decide) ?_
  refine lv_aload_n hx hb dL_ticketOf_2 rfl (lv_at hl 0 rfl) ?_
  refine lv_iload_n hx hb dL_ticketOf_3 rfl (lv_at hl 1 rfl) ?_
  have hq1 := hp.1
  replace hp := hp.2
  refine k_xcalli (S := Unit) (px := fun E => f_X4_ticketOf tn a1 = .inl E ∧ (E = eIO)) (wc := (W_X4 cI x0 g0 g1 g2 g3 g4 l0 l1 l2 l3 l4 l5 t0 t1 t2 xr xt gn gu gb ga lc lk ln lt ll lr tw tn tt)) (wr := [(o0, .inl (cJ, 1, .inr (.inl oo)))]) (w1 := fun u => (W_X4 cI x0 g0 g1 g2 g3 g4 l0 l1 l2 l3 l4 l5 t0 t1 t2 xr xt gn gu gb ga lc lk ln lt ll lr tw tn tt)) (fun u => (W_O cI cJ x0 g0 g1 g2 g3 g4 l0 l1 l2 l3 l4 l5 t0 t1 t2 o0 xr xt gn gu gb ga lc lk ln lt ll lr tw tn tt oo)) hP (hK.sub [0] rfl) hD hN hXB hS hA [0, 1, 2, 3, 4, 5, 6, 7, 8, 9, 10, 11, 12, 13, 14] [15] rfl rfl (by decide) (by decide) (by decide) [1, 2, 3, 4, 5, 6, 7, 8, 9, 10, 11, 12, 13, 14, 15, 0] (by decide) (fun _ => rfl) rfl (fun hg => vx_runV (As := [.int a1]) (rest := [.int 0, .ref o0]) ⟨hx, hb, hml, hown, hts⟩ (c_X4_ticketOf l D cI x0 g0 g1 g2 g3 g4 l0 l1 l2 l3 l4 l5 t0 t1 t2 xr xt gn gu gb ga lc lk ln lt ll lr tw tn tt _ a1 hq1 hst) (cwV 1 hts gL_ticketOf_X4_ticketOf rfl rfl rfl (by decide +kernel) ⟨Nat.le_of_ble_eq_true rfl, Nat.le_of_ble_eq_true rfl⟩) ⟨PX.blind, va_recv hK hP (ci := 4) (q0 := 0) rfl rfl, fun U hU hW => ⟨rfl, hg U hU hW⟩⟩ rfl rfl hl.1 rfl (lv_room (Nat.le_of_ble_eq_true rfl)) dL_ticketOf_4 ⟨Nat.le_of_ble_eq_true rfl, Nat.le_of_ble_eq_true rfl⟩) (fun E ce q9 H locs hw hP hD hS hc9 hv9 hcl9 => ?_) (fun r1 u H locs hw hP hD hS => ?_)
  · rw [hw.1] at he
    try dsimp only at he
    have hE := hw.2
    subst hE
    refine vx_catch (own := RL) (name := eIO) hown [] ⟨0, 9, 12, 13⟩ [] htab (fun z hz => absurd hz List.not_mem_nil) (by decide) (by decide) (hts (.classLink RL 13 eIO) (by decide +kernel)) (hXB.cast (w := .castable eIO eIO) (by decide +kernel)) hc9 hv9 hcl9 ?_
    refine lv_astore_n (lv' := [(3, .ref q9), (0, .ref x0), (1, .int a1), (2, .ref o0)]) hx hb dL_ticketOf_12 rfl hl (by decide) rfl (fun ls hl => ?_)
    refine lv_iconst (v := 1) hx hb dL_ticketOf_13 (by decide) ?_
    exact W.iret (v := 1) hx hb hr (fun t ht hW => ⟨⟨1, oo, rfl, he, by rw [ht]; exact hP, va_K.moved hW.alike hK, hD⟩, hS.F ht⟩) hS.2.2 dL_ticketOf_14
  · rw [hw] at he
    try dsimp only at he
    replace hp := hp r1 hw
    refine lv_i2l (v := (r1).toInt64) hx hb dL_ticketOf_7 rfl ?_
    refine va_last hx hb hK hP hD hS 15 1 rfl rfl (by unfold vp_in; decide) dL_ticketOf_8 (fun H locs hP hD hS => ?_)
    have hP : va_P D vwCl (W_O cI cJ x0 g0 g1 g2 g3 g4 l0 l1 l2 l3 l4 l5 t0 t1 t2 o0 xr xt gn gu gb ga lc lk ln lt ll lr tw tn tt (vp_updL oo (0 : Int32).toNatClampNeg ((r1).toInt64))) H := hP
    have hD : va_D A (W_O cI cJ x0 g0 g1 g2 g3 g4 l0 l1 l2 l3 l4 l5 t0 t1 t2 o0 xr xt gn gu gb ga lc lk ln lt ll lr tw tn tt (vp_updL oo (0 : Int32).toNatClampNeg ((r1).toInt64))) := hD
    refine lv_goto (tgt := 15) hx hb dL_ticketOf_9 (by decide) ?_
    refine lv_iconst (v := 0) hx hb dL_ticketOf_15 (by decide) ?_
    exact W.iret (v := 0) hx hb hr (fun t ht hW => ⟨⟨0, (vp_updL oo (0 : Int32).toNatClampNeg ((r1).toInt64)), rfl, he, by rw [ht]; exact hP, va_K.moved hW.alike hK, hD⟩, hS.F ht⟩) hS.2.2 dL_ticketOf_16
abbrev rm_L_isPlausible : Room := { frames := 8, cells := 2, slots := 9, locals := 123 }
abbrev Q_L_isPlausible (D : va_G) (cI : ClassId) (cJ : ClassId) (x0 g0 g1 g2 g3 g4 l0 l1 l2 l3 l4 l5 t0 t1 t2 o0 : Nat) (xr : Int32) (xt : Int32) (gn : AA) (gu : AA) (gb : AA) (ga : AA) (lc : Int32) (lk : AA) (ln : AA) (lt : AA) (ll : AA) (lr : AA) (tw : Int32) (tn : AA) (tt : AA) (oo : LA) (a1 : Int32) (A : Nat → Prop) : Array Value → State → Outcome → State → Prop := va_Qi (S := LA) (fun r u => f_L_isPlausible xr gu oo a1 = (r, u)) (fun u t => QW D [(cI, .int), (cJ, .long)] A (W_O cI cJ x0 g0 g1 g2 g3 g4 l0 l1 l2 l3 l4 l5 t0 t1 t2 o0 xr xt gn gu gb ga lc lk ln lt ll lr tw tn tt u) t) A
set_option maxHeartbeats 4000000 in
set_option maxRecDepth 100000 in
theorem c_L_isPlausible (l : Launch)  (D : va_G) (cI : ClassId) (cJ : ClassId) (x0 g0 g1 g2 g3 g4 l0 l1 l2 l3 l4 l5 t0 t1 t2 o0 : Nat) (xr : Int32) (xt : Int32) (gn : AA) (gu : AA) (gb : AA) (ga : AA) (lc : Int32) (lk : AA) (ln : AA) (lt : AA) (ll : AA) (lr : AA) (tw : Int32) (tn : AA) (tt : AA) (oo : LA) (sz : Nat) (a1 : Int32) (hp : p_L_isPlausible xr gu a1) (hst : l.stackTraces = false) : Met l yL_isPlausible wsL_isPlausible rm_L_isPlausible (va_Pc [.ref x0, .int a1, .ref o0] (PX D [(cI, .int), (cJ, .long)] sz (W_O cI cJ x0 g0 g1 g2 g3 g4 l0 l1 l2 l3 l4 l5 t0 t1 t2 o0 xr xt gn gu gb ga lc lk ln lt ll lr tw tn tt oo))) (Q_L_isPlausible D cI cJ x0 g0 g1 g2 g3 g4 l0 l1 l2 l3 l4 l5 t0 t1 t2 o0 xr xt gn gu gb ga lc lk ln lt ll lr tw tn tt oo a1 (va_A (W_O cI cJ x0 g0 g1 g2 g3 g4 l0 l1 l2 l3 l4 l5 t0 t1 t2 o0 xr xt gn gu gb ga lc lk ln lt ll lr tw tn tt oo) sz)) 2 9 (va_A (W_O cI cJ x0 g0 g1 g2 g3 g4 l0 l1 l2 l3 l4 l5 t0 t1 t2 o0 xr xt gn gu gb ga lc lk ln lt ll lr tw tn tt oo) sz) := by
  refine va_MetW (cc := cL_isPlausible) (maxL := 4) (ret := (some .int)) (hh := [(0, 16, 19, 13)]) (by decide) rfl ?_
  intro p e s m args below meth c s₁ B hml hv
  obtain ⟨rfl, ⟨hsz, hP, hK, hD0, hN⟩, hXB⟩ := hv
  have hx := B.exec
  have hb := B.bytes
  have hr := B.returns
  have hts := atoms_spec (ws := wsL_isPlausible) B.pre
  have hown : s.vm.findClass RL = some m.cls := findClass_of_methodNamed B.named
  have hlocks := B.notSynchronized
  have htab := vx_table (x := yL_isPlausible) B (hts (.codeWith yL_isPlausible cL_isPlausible 4 (some .int) [(0, 16, 19, 13)]) (by decide +kernel))
  subst hsz
  have hD := hD0.self (sz := s.heap.size)
  generalize hAe : va_A (W_O cI cJ x0 g0 g1 g2 g3 g4 l0 l1 l2 l3 l4 l5 t0 t1 t2 o0 xr xt gn gu gb ga lc lk ln lt ll lr tw tn tt oo) s.heap.size = A at hD hXB ⊢
  have hA : ∀ q : Nat, s.heap.size ≤ q → A q := fun q h => by rw [← hAe]; exact Or.inr h
  have hS : va_S A s.heap s.heap [] := va_S.rf
  have hl := lv_entry ([.ref x0, .int a1, .ref o0]) (n := 4) (Nat.le_of_ble_eq_true rfl)
  rw [lg_entry_eq]
  generalize (lg_sl ([.ref x0, .int a1, .ref o0]) ++ List.replicate (4 - (lg_sl ([.ref x0, .int a1, .ref o0])).length) Slot.unset).toArray = ls at hl ⊢
  have hl : lv_has ls 4 [(0, .ref x0), (1, .int a1), (2, .ref o0)] := hl
  have he := f_L_isPlausible.eq_1 xr gu oo a1
  replace hp := Eq.mp (p_L_isPlausible.eq_1 ..) hp
  refine lv_aload_n hx hb dL_isPlausible_0 rfl (lv_at hl 2 rfl) ?_
  refine lv_iconst (v := 0) hx hb dL_isPlausible_1 (by decide) ?_
  refine lv_aload_n hx hb dL_isPlausible_2 rfl (lv_at hl 0 rfl) ?_
  refine lv_iload_n hx hb dL_isPlausible_3 rfl (lv_at hl 1 rfl) ?_
  have hq1 := hp.1
  replace hp := hp.2
  refine k_xcalli (S := Unit) (px := fun E => f_X4_isPlausible xr gu a1 = .inl E ∧ (E = eIO)) (wc := (W_X4 cI x0 g0 g1 g2 g3 g4 l0 l1 l2 l3 l4 l5 t0 t1 t2 xr xt gn gu gb ga lc lk ln lt ll lr tw tn tt)) (wr := [(o0, .inl (cJ, 1, .inr (.inl oo)))]) (w1 := fun u => (W_X4 cI x0 g0 g1 g2 g3 g4 l0 l1 l2 l3 l4 l5 t0 t1 t2 xr xt gn gu gb ga lc lk ln lt ll lr tw tn tt)) (fun u => (W_O cI cJ x0 g0 g1 g2 g3 g4 l0 l1 l2 l3 l4 l5 t0 t1 t2 o0 xr xt gn gu gb ga lc lk ln lt ll lr tw tn tt oo)) hP (hK.sub [0] rfl) hD hN hXB hS hA [0, 1, 2, 3, 4, 5, 6, 7, 8, 9, 10, 11, 12, 13, 14] [15] rfl rfl (by decide) (by decide) (by decide) [1, 2, 3, 4, 5, 6, 7, 8, 9, 10, 11, 12, 13, 14, 15, 0] (by decide) (fun _ => rfl) rfl (fun hg => vx_runV (As := [.int a1]) (rest := [.int 0, .ref o0]) ⟨hx, hb, hml, hown, hts⟩ (c_X4_isPlausible l D cI x0 g0 g1 g2 g3 g4 l0 l1 l2 l3 l4 l5 t0 t1 t2 xr xt gn gu gb ga lc lk ln lt ll lr tw tn tt _ a1 hq1 hst) (cwV 1 hts gL_isPlausible_X4_isPlausible rfl rfl rfl (by decide +kernel) ⟨Nat.le_of_ble_eq_true rfl, Nat.le_of_ble_eq_true rfl⟩) ⟨PX.blind, va_recv hK hP (ci := 4) (q0 := 0) rfl rfl, fun U hU hW => ⟨rfl, hg U hU hW⟩⟩ rfl rfl hl.1 rfl (lv_room (Nat.le_of_ble_eq_true rfl)) dL_isPlausible_4 ⟨Nat.le_of_ble_eq_true rfl, Nat.le_of_ble_eq_true rfl⟩) (fun E ce q9 H locs hw hP hD hS hc9 hv9 hcl9 => ?_) (fun r1 u H locs hw hP hD hS => ?_)
  · rw [hw.1] at he
    try dsimp only at he
    have hE := hw.2
    subst hE
    refine vx_catch (own := RL) (name := eIO) hown [] ⟨0, 16, 19, 13⟩ [] htab (fun z hz => absurd hz List.not_mem_nil) (by decide) (by decide) (hts (.classLink RL 13 eIO) (by decide +kernel)) (hXB.cast (w := .castable eIO eIO) (by decide +kernel)) hc9 hv9 hcl9 ?_
    refine lv_astore_n (lv' := [(3, .ref q9), (0, .ref x0), (1, .int a1), (2, .ref o0)]) hx hb dL_isPlausible_19 rfl hl (by decide) rfl (fun ls hl => ?_)
    refine lv_iconst (v := 1) hx hb dL_isPlausible_20 (by decide) ?_
    exact W.iret (v := 1) hx hb hr (fun t ht hW => ⟨⟨1, oo, rfl, he, by rw [ht]; exact hP, va_K.moved hW.alike hK, hD⟩, hS.F ht⟩) hS.2.2 dL_isPlausible_21
  · obtain ⟨hw, hb1⟩ := hw
    rw [hw] at he
    try dsimp only at he
    replace hp := hp r1 hw
    obtain ⟨j2, hJ2⟩ : ∃ z : Int64, z = (if r1 = 0 then (0 : Int64) else (1 : Int64)) := ⟨_, rfl⟩
    rw [← hJ2] at he
    try dsimp only at he
    have hpJ2 := hp.1
    replace hp := hp.2 _  hJ2.symm
    have kont2 : ∀ (H : Heap) (locs : List Loc), va_P D vwCl (W_O cI cJ x0 g0 g1 g2 g3 g4 l0 l1 l2 l3 l4 l5 t0 t1 t2 o0 xr xt gn gu gb ga lc lk ln lt ll lr tw tn tt oo) H → va_D A (W_O cI cJ x0 g0 g1 g2 g3 g4 l0 l1 l2 l3 l4 l5 t0 t1 t2 o0 xr xt gn gu gb ga lc lk ln lt ll lr tw tn tt oo) → va_S A s.heap H locs → ∀ ls : Array Slot, lv_has ls 4 [] → W p l e (headSpec wsL_isPlausible rm_L_isPlausible).room s m ([.ref x0, .int a1, .ref o0] : List Value).toArray below meth c H locs 2 9 (MQ below (Q_L_isPlausible D cI cJ x0 g0 g1 g2 g3 g4 l0 l1 l2 l3 l4 l5 t0 t1 t2 o0 xr xt gn gu gb ga lc lk ln lt ll lr tw tn tt oo a1 A) ([.ref x0, .int a1, .ref o0] : List Value).toArray s 2 9 A) (F0 m 15 ls [.long j2, .int 0, .ref o0]) := by
      intro H locs hP hD hS ls hl
      refine va_last hx hb hK hP hD hS 15 1 rfl rfl (by unfold vp_in; decide) dL_isPlausible_15 (fun H locs hP hD hS => ?_)
      have hP : va_P D vwCl (W_O cI cJ x0 g0 g1 g2 g3 g4 l0 l1 l2 l3 l4 l5 t0 t1 t2 o0 xr xt gn gu gb ga lc lk ln lt ll lr tw tn tt (vp_updL oo (0 : Int32).toNatClampNeg j2)) H := hP
      have hD : va_D A (W_O cI cJ x0 g0 g1 g2 g3 g4 l0 l1 l2 l3 l4 l5 t0 t1 t2 o0 xr xt gn gu gb ga lc lk ln lt ll lr tw tn tt (vp_updL oo (0 : Int32).toNatClampNeg j2)) := hD
      refine lv_goto (tgt := 22) hx hb dL_isPlausible_16 (by decide) ?_
      refine lv_iconst (v := 0) hx hb dL_isPlausible_22 (by decide) ?_
      exact W.iret (v := 0) hx hb hr (fun t ht hW => ⟨⟨0, (vp_updL oo (0 : Int32).toNatClampNeg j2), rfl, he, by rw [ht]; exact hP, va_K.moved hW.alike hK, hD⟩, hS.F ht⟩) hS.2.2 dL_isPlausible_23
    replace he := hJ2
    replace hp := hpJ2
    refine lv_if_eq (tgt := 14) hx hb dL_isPlausible_7 (by decide) (fun c3 => ?_) (fun c3 => ?_)
    · replace hp := hp.1 c3
      replace he := he.trans (if_pos c3)
      refine lv_lconst (v := 0) hx hb dL_isPlausible_14 rfl ?_
      subst he
      exact kont2 _ _ hP hD hS _ (lv_sub hl [] rfl)
    · replace hp := hp.2 c3
      replace he := he.trans (if_neg c3)
      refine lv_lconst (v := 1) hx hb dL_isPlausible_10 rfl ?_
      refine lv_goto (tgt := 15) hx hb dL_isPlausible_11 (by decide) ?_
      subst he
      exact kont2 _ _ hP hD hS _ (lv_sub hl [] rfl)
abbrev rm_L_cause : Room := { frames := 23, cells := 2, slots := 9, locals := 676 }
abbrev Q_L_cause (D : va_G) (cI : ClassId) (cJ : ClassId) (x0 g0 g1 g2 g3 g4 l0 l1 l2 l3 l4 l5 t0 t1 t2 o0 : Nat) (xr : Int32) (xt : Int32) (gn : AA) (gu : AA) (gb : AA) (ga : AA) (lc : Int32) (lk : AA) (ln : AA) (lt : AA) (ll : AA) (lr : AA) (tw : Int32) (tn : AA) (tt : AA) (oo : LA) (a1 : Int32) (A : Nat → Prop) : Array Value → State → Outcome → State → Prop := va_Qi (S := LA) (fun r u => f_L_cause xr gu gb ga oo a1 = (r, u)) (fun u t => QW D [(cI, .int), (cJ, .long)] A (W_O cI cJ x0 g0 g1 g2 g3 g4 l0 l1 l2 l3 l4 l5 t0 t1 t2 o0 xr xt gn gu gb ga lc lk ln lt ll lr tw tn tt u) t) A
set_option maxHeartbeats 4000000 in
set_option maxRecDepth 100000 in
theorem c_L_cause (l : Launch)  (D : va_G) (cI : ClassId) (cJ : ClassId) (x0 g0 g1 g2 g3 g4 l0 l1 l2 l3 l4 l5 t0 t1 t2 o0 : Nat) (xr : Int32) (xt : Int32) (gn : AA) (gu : AA) (gb : AA) (ga : AA) (lc : Int32) (lk : AA) (ln : AA) (lt : AA) (ll : AA) (lr : AA) (tw : Int32) (tn : AA) (tt : AA) (oo : LA) (sz : Nat) (a1 : Int32) (hp : p_L_cause xr gu gb ga a1) (hst : l.stackTraces = false) : Met l yL_cause wsL_cause rm_L_cause (va_Pc [.ref x0, .int a1, .ref o0] (PX D [(cI, .int), (cJ, .long)] sz (W_O cI cJ x0 g0 g1 g2 g3 g4 l0 l1 l2 l3 l4 l5 t0 t1 t2 o0 xr xt gn gu gb ga lc lk ln lt ll lr tw tn tt oo))) (Q_L_cause D cI cJ x0 g0 g1 g2 g3 g4 l0 l1 l2 l3 l4 l5 t0 t1 t2 o0 xr xt gn gu gb ga lc lk ln lt ll lr tw tn tt oo a1 (va_A (W_O cI cJ x0 g0 g1 g2 g3 g4 l0 l1 l2 l3 l4 l5 t0 t1 t2 o0 xr xt gn gu gb ga lc lk ln lt ll lr tw tn tt oo) sz)) 2 9 (va_A (W_O cI cJ x0 g0 g1 g2 g3 g4 l0 l1 l2 l3 l4 l5 t0 t1 t2 o0 xr xt gn gu gb ga lc lk ln lt ll lr tw tn tt oo) sz) := by
  refine va_MetW (cc := cL_cause) (maxL := 4) (ret := (some .int)) (hh := [(0, 9, 12, 13)]) (by decide) rfl ?_
  intro p e s m args below meth c s₁ B hml hv
  obtain ⟨rfl, ⟨hsz, hP, hK, hD0, hN⟩, hXB⟩ := hv
  have hx := B.exec
  have hb := B.bytes
  have hr := B.returns
  have hts := atoms_spec (ws := wsL_cause) B.pre
  have hown : s.vm.findClass RL = some m.cls := findClass_of_methodNamed B.named
  have hlocks := B.notSynchronized
  have htab := vx_table (x := yL_cause) B (hts (.codeWith yL_cause cL_cause 4 (some .int) [(0, 9, 12, 13)]) (by decide +kernel))
  subst hsz
  have hD := hD0.self (sz := s.heap.size)
  generalize hAe : va_A (W_O cI cJ x0 g0 g1 g2 g3 g4 l0 l1 l2 l3 l4 l5 t0 t1 t2 o0 xr xt gn gu gb ga lc lk ln lt ll lr tw tn tt oo) s.heap.size = A at hD hXB ⊢
  have hA : ∀ q : Nat, s.heap.size ≤ q → A q := fun q h => by rw [← hAe]; exact Or.inr h
  have hS : va_S A s.heap s.heap [] := va_S.rf
  have hl := lv_entry ([.ref x0, .int a1, .ref o0]) (n := 4) (Nat.le_of_ble_eq_true rfl)
  rw [lg_entry_eq]
  generalize (lg_sl ([.ref x0, .int a1, .ref o0]) ++ List.replicate (4 - (lg_sl ([.ref x0, .int a1, .ref o0])).length) Slot.unset).toArray = ls at hl ⊢
  have hl : lv_has ls 4 [(0, .ref x0), (1, .int a1), (2, .ref o0)] := hl
  have he := f_L_cause.eq_1 xr gu gb ga oo a1
  replace hp := Eq.mp (p_L_cause.eq_1 ..) hp
  refine lv_aload_n hx hb dL_cause_0 rfl (lv_at hl 2 rfl) ?_
  refine lv_iconst (v := 0) hx hb dL_cause_1 (by decide) ?_
  refine lv_aload_n hx hb dL_cause_2 rfl (lv_at hl 0 rfl) ?_
  refine lv_iload_n hx hb dL_cause_3 rfl (lv_at hl 1 rfl) ?_
  have hq1 := hp.1
  replace hp := hp.2
  refine k_xcalli (S := Unit) (px := fun E => f_X4_cause xr gu gb ga a1 = .inl E ∧ (E = eIO)) (wc := (W_X4 cI x0 g0 g1 g2 g3 g4 l0 l1 l2 l3 l4 l5 t0 t1 t2 xr xt gn gu gb ga lc lk ln lt ll lr tw tn tt)) (wr := [(o0, .inl (cJ, 1, .inr (.inl oo)))]) (w1 := fun u => (W_X4 cI x0 g0 g1 g2 g3 g4 l0 l1 l2 l3 l4 l5 t0 t1 t2 xr xt gn gu gb ga lc lk ln lt ll lr tw tn tt)) (fun u => (W_O cI cJ x0 g0 g1 g2 g3 g4 l0 l1 l2 l3 l4 l5 t0 t1 t2 o0 xr xt gn gu gb ga lc lk ln lt ll lr tw tn tt oo)) hP (hK.sub [0] rfl) hD hN hXB hS hA [0, 1, 2, 3, 4, 5, 6, 7, 8, 9, 10, 11, 12, 13, 14] [15] rfl rfl (by decide) (by decide) (by decide) [1, 2, 3, 4, 5, 6, 7, 8, 9, 10, 11, 12, 13, 14, 15, 0] (by decide) (fun _ => rfl) rfl (fun hg => vx_runV (As := [.int a1]) (rest := [.int 0, .ref o0]) ⟨hx, hb, hml, hown, hts⟩ (c_X4_cause l D cI x0 g0 g1 g2 g3 g4 l0 l1 l2 l3 l4 l5 t0 t1 t2 xr xt gn gu gb ga lc lk ln lt ll lr tw tn tt _ a1 hq1 hst) (cwV 1 hts gL_cause_X4_cause rfl rfl rfl (by decide +kernel) ⟨Nat.le_of_ble_eq_true rfl, Nat.le_of_ble_eq_true rfl⟩) ⟨PX.blind, va_recv hK hP (ci := 4) (q0 := 0) rfl rfl, fun U hU hW => ⟨rfl, hg U hU hW⟩⟩ rfl rfl hl.1 rfl (lv_room (Nat.le_of_ble_eq_true rfl)) dL_cause_4 ⟨Nat.le_of_ble_eq_true rfl, Nat.le_of_ble_eq_true rfl⟩) (fun E ce q9 H locs hw hP hD hS hc9 hv9 hcl9 => ?_) (fun r1 u H locs hw hP hD hS => ?_)
  · rw [hw.1] at he
    try dsimp only at he
    have hE := hw.2
    subst hE
    refine vx_catch (own := RL) (name := eIO) hown [] ⟨0, 9, 12, 13⟩ [] htab (fun z hz => absurd hz List.not_mem_nil) (by decide) (by decide) (hts (.classLink RL 13 eIO) (by decide +kernel)) (hXB.cast (w := .castable eIO eIO) (by decide +kernel)) hc9 hv9 hcl9 ?_
    refine lv_astore_n (lv' := [(3, .ref q9), (0, .ref x0), (1, .int a1), (2, .ref o0)]) hx hb dL_cause_12 rfl hl (by decide) rfl (fun ls hl => ?_)
    refine lv_iconst (v := 1) hx hb dL_cause_13 (by decide) ?_
    exact W.iret (v := 1) hx hb hr (fun t ht hW => ⟨⟨1, oo, rfl, he, by rw [ht]; exact hP, va_K.moved hW.alike hK, hD⟩, hS.F ht⟩) hS.2.2 dL_cause_14
  · rw [hw] at he
    try dsimp only at he
    replace hp := hp r1 hw
    refine lv_i2l (v := (r1).toInt64) hx hb dL_cause_7 rfl ?_
    refine va_last hx hb hK hP hD hS 15 1 rfl rfl (by unfold vp_in; decide) dL_cause_8 (fun H locs hP hD hS => ?_)
    have hP : va_P D vwCl (W_O cI cJ x0 g0 g1 g2 g3 g4 l0 l1 l2 l3 l4 l5 t0 t1 t2 o0 xr xt gn gu gb ga lc lk ln lt ll lr tw tn tt (vp_updL oo (0 : Int32).toNatClampNeg ((r1).toInt64))) H := hP
    have hD : va_D A (W_O cI cJ x0 g0 g1 g2 g3 g4 l0 l1 l2 l3 l4 l5 t0 t1 t2 o0 xr xt gn gu gb ga lc lk ln lt ll lr tw tn tt (vp_updL oo (0 : Int32).toNatClampNeg ((r1).toInt64))) := hD
    refine lv_goto (tgt := 15) hx hb dL_cause_9 (by decide) ?_
    refine lv_iconst (v := 0) hx hb dL_cause_15 (by decide) ?_
    exact W.iret (v := 0) hx hb hr (fun t ht hW => ⟨⟨0, (vp_updL oo (0 : Int32).toNatClampNeg ((r1).toInt64)), rfl, he, by rw [ht]; exact hP, va_K.moved hW.alike hK, hD⟩, hS.F ht⟩) hS.2.2 dL_cause_16
abbrev rm_L_causeByTrying : Room := { frames := 8, cells := 2, slots := 9, locals := 136 }
abbrev Q_L_causeByTrying (D : va_G) (cI : ClassId) (cJ : ClassId) (x0 g0 g1 g2 g3 g4 l0 l1 l2 l3 l4 l5 t0 t1 t2 o0 : Nat) (xr : Int32) (xt : Int32) (gn : AA) (gu : AA) (gb : AA) (ga : AA) (lc : Int32) (lk : AA) (ln : AA) (lt : AA) (ll : AA) (lr : AA) (tw : Int32) (tn : AA) (tt : AA) (oo : LA) (a1 : Int32) (A : Nat → Prop) : Array Value → State → Outcome → State → Prop := va_Qi (S := LA) (fun r u => f_L_causeByTrying xr gu gb oo a1 = (r, u)) (fun u t => QW D [(cI, .int), (cJ, .long)] A (W_O cI cJ x0 g0 g1 g2 g3 g4 l0 l1 l2 l3 l4 l5 t0 t1 t2 o0 xr xt gn gu gb ga lc lk ln lt ll lr tw tn tt u) t) A
set_option maxHeartbeats 4000000 in
set_option maxRecDepth 100000 in
theorem c_L_causeByTrying (l : Launch)  (D : va_G) (cI : ClassId) (cJ : ClassId) (x0 g0 g1 g2 g3 g4 l0 l1 l2 l3 l4 l5 t0 t1 t2 o0 : Nat) (xr : Int32) (xt : Int32) (gn : AA) (gu : AA) (gb : AA) (ga : AA) (lc : Int32) (lk : AA) (ln : AA) (lt : AA) (ll : AA) (lr : AA) (tw : Int32) (tn : AA) (tt : AA) (oo : LA) (sz : Nat) (a1 : Int32) (hp : p_L_causeByTrying xr gu gb a1) (hst : l.stackTraces = false) : Met l yL_causeByTrying wsL_causeByTrying rm_L_causeByTrying (va_Pc [.ref x0, .int a1, .ref o0] (PX D [(cI, .int), (cJ, .long)] sz (W_O cI cJ x0 g0 g1 g2 g3 g4 l0 l1 l2 l3 l4 l5 t0 t1 t2 o0 xr xt gn gu gb ga lc lk ln lt ll lr tw tn tt oo))) (Q_L_causeByTrying D cI cJ x0 g0 g1 g2 g3 g4 l0 l1 l2 l3 l4 l5 t0 t1 t2 o0 xr xt gn gu gb ga lc lk ln lt ll lr tw tn tt oo a1 (va_A (W_O cI cJ x0 g0 g1 g2 g3 g4 l0 l1 l2 l3 l4 l5 t0 t1 t2 o0 xr xt gn gu gb ga lc lk ln lt ll lr tw tn tt oo) sz)) 2 9 (va_A (W_O cI cJ x0 g0 g1 g2 g3 g4 l0 l1 l2 l3 l4 l5 t0 t1 t2 o0 xr xt gn gu gb ga lc lk ln lt ll lr tw tn tt oo) sz) := by
  refine va_MetW (cc := cL_causeByTrying) (maxL := 4) (ret := (some .int)) (hh := [(0, 9, 12, 13)]) (by decide) rfl ?_
  intro p e s m args below meth c s₁ B hml hv
  obtain ⟨rfl, ⟨hsz, hP, hK, hD0, hN⟩, hXB⟩ := hv
  have hx := B.exec
  have hb := B.bytes
  have hr := B.returns
  have hts := atoms_spec (ws := wsL_causeByTrying) B.pre
  have hown : s.vm.findClass RL = some m.cls := findClass_of_methodNamed B.named
  have hlocks := B.notSynchronized
  have htab := vx_table (x := yL_causeByTrying) B (hts (.codeWith yL_causeByTrying cL_causeByTrying 4 (some .int) [(0, 9, 12, 13)]) (by decide +kernel))
  subst hsz
  have hD := hD0.self (sz := s.heap.size)
  generalize hAe : va_A (W_O cI cJ x0 g0 g1 g2 g3 g4 l0 l1 l2 l3 l4 l5 t0 t1 t2 o0 xr xt gn gu gb ga lc lk ln lt ll lr tw tn tt oo) s.heap.size = A at hD hXB ⊢
  have hA : ∀ q : Nat, s.heap.size ≤ q → A q := fun q h => by rw [← hAe]; exact Or.inr h
  have hS : va_S A s.heap s.heap [] := va_S.rf
  have hl := lv_entry ([.ref x0, .int a1, .ref o0]) (n := 4) (Nat.le_of_ble_eq_true rfl)
  rw [lg_entry_eq]
  generalize (lg_sl ([.ref x0, .int a1, .ref o0]) ++ List.replicate (4 - (lg_sl ([.ref x0, .int a1, .ref o0])).length) Slot.unset).toArray = ls at hl ⊢
  have hl : lv_has ls 4 [(0, .ref x0), (1, .int a1), (2, .ref o0)] := hl
  have he := f_L_causeByTrying.eq_1 xr gu gb oo a1
  replace hp := Eq.mp (p_L_causeByTrying.eq_1 ..) hp
  refine lv_aload_n hx hb dL_causeByTrying_0 rfl (lv_at hl 2 rfl) ?_
  refine lv_iconst (v := 0) hx hb dL_causeByTrying_1 (by decide) ?_
  refine lv_aload_n hx hb dL_causeByTrying_2 rfl (lv_at hl 0 rfl) ?_
  refine lv_iload_n hx hb dL_causeByTrying_3 rfl (lv_at hl 1 rfl) ?_
  have hq1 := hp.1
  replace hp := hp.2
  refine k_xcalli (S := Unit) (px := fun E => f_X4_causeByTrying xr gu gb a1 = .inl E ∧ (E = eIO)) (wc := (W_X4 cI x0 g0 g1 g2 g3 g4 l0 l1 l2 l3 l4 l5 t0 t1 t2 xr xt gn gu gb ga lc lk ln lt ll lr tw tn tt)) (wr := [(o0, .inl (cJ, 1, .inr (.inl oo)))]) (w1 := fun u => (W_X4 cI x0 g0 g1 g2 g3 g4 l0 l1 l2 l3 l4 l5 t0 t1 t2 xr xt gn gu gb ga lc lk ln lt ll lr tw tn tt)) (fun u => (W_O cI cJ x0 g0 g1 g2 g3 g4 l0 l1 l2 l3 l4 l5 t0 t1 t2 o0 xr xt gn gu gb ga lc lk ln lt ll lr tw tn tt oo)) hP (hK.sub [0] rfl) hD hN hXB hS hA [0, 1, 2, 3, 4, 5, 6, 7, 8, 9, 10, 11, 12, 13, 14] [15] rfl rfl (by decide) (by decide) (by decide) [1, 2, 3, 4, 5, 6, 7, 8, 9, 10, 11, 12, 13, 14, 15, 0] (by decide) (fun _ => rfl) rfl (fun hg => vx_runV (As := [.int a1]) (rest := [.int 0, .ref o0]) ⟨hx, hb, hml, hown, hts⟩ (c_X4_causeByTrying l D cI x0 g0 g1 g2 g3 g4 l0 l1 l2 l3 l4 l5 t0 t1 t2 xr xt gn gu gb ga lc lk ln lt ll lr tw tn tt _ a1 hq1 hst) (cwV 1 hts gL_causeByTrying_X4_causeByTrying rfl rfl rfl (by decide +kernel) ⟨Nat.le_of_ble_eq_true rfl, Nat.le_of_ble_eq_true rfl⟩) ⟨PX.blind, va_recv hK hP (ci := 4) (q0 := 0) rfl rfl, fun U hU hW => ⟨rfl, hg U hU hW⟩⟩ rfl rfl hl.1 rfl (lv_room (Nat.le_of_ble_eq_true rfl)) dL_causeByTrying_4 ⟨Nat.le_of_ble_eq_true rfl, Nat.le_of_ble_eq_true rfl⟩) (fun E ce q9 H locs hw hP hD hS hc9 hv9 hcl9 => ?_) (fun r1 u H locs hw hP hD hS => ?_)
  · rw [hw.1] at he
    try dsimp only at he
    have hE := hw.2
    subst hE
    refine vx_catch (own := RL) (name := eIO) hown [] ⟨0, 9, 12, 13⟩ [] htab (fun z hz => absurd hz List.not_mem_nil) (by decide) (by decide) (hts (.classLink RL 13 eIO) (by decide +kernel)) (hXB.cast (w := .castable eIO eIO) (by decide +kernel)) hc9 hv9 hcl9 ?_
    refine lv_astore_n (lv' := [(3, .ref q9), (0, .ref x0), (1, .int a1), (2, .ref o0)]) hx hb dL_causeByTrying_12 rfl hl (by decide) rfl (fun ls hl => ?_)
    refine lv_iconst (v := 1) hx hb dL_causeByTrying_13 (by decide) ?_
    exact W.iret (v := 1) hx hb hr (fun t ht hW => ⟨⟨1, oo, rfl, he, by rw [ht]; exact hP, va_K.moved hW.alike hK, hD⟩, hS.F ht⟩) hS.2.2 dL_causeByTrying_14
  · rw [hw] at he
    try dsimp only at he
    replace hp := hp r1 hw
    refine lv_i2l (v := (r1).toInt64) hx hb dL_causeByTrying_7 rfl ?_
    refine va_last hx hb hK hP hD hS 15 1 rfl rfl (by unfold vp_in; decide) dL_causeByTrying_8 (fun H locs hP hD hS => ?_)
    have hP : va_P D vwCl (W_O cI cJ x0 g0 g1 g2 g3 g4 l0 l1 l2 l3 l4 l5 t0 t1 t2 o0 xr xt gn gu gb ga lc lk ln lt ll lr tw tn tt (vp_updL oo (0 : Int32).toNatClampNeg ((r1).toInt64))) H := hP
    have hD : va_D A (W_O cI cJ x0 g0 g1 g2 g3 g4 l0 l1 l2 l3 l4 l5 t0 t1 t2 o0 xr xt gn gu gb ga lc lk ln lt ll lr tw tn tt (vp_updL oo (0 : Int32).toNatClampNeg ((r1).toInt64))) := hD
    refine lv_goto (tgt := 15) hx hb dL_causeByTrying_9 (by decide) ?_
    refine lv_iconst (v := 0) hx hb dL_causeByTrying_15 (by decide) ?_
    exact W.iret (v := 0) hx hb hr (fun t ht hW => ⟨⟨0, (vp_updL oo (0 : Int32).toNatClampNeg ((r1).toInt64)), rfl, he, by rw [ht]; exact hP, va_K.moved hW.alike hK, hD⟩, hS.F ht⟩) hS.2.2 dL_causeByTrying_16
abbrev rm_L_greedyCause : Room := { frames := 7, cells := 2, slots := 9, locals := 113 }
abbrev Q_L_greedyCause (D : va_G) (cI : ClassId) (cJ : ClassId) (x0 g0 g1 g2 g3 g4 l0 l1 l2 l3 l4 l5 t0 t1 t2 o0 : Nat) (xr : Int32) (xt : Int32) (gn : AA) (gu : AA) (gb : AA) (ga : AA) (lc : Int32) (lk : AA) (ln : AA) (lt : AA) (ll : AA) (lr : AA) (tw : Int32) (tn : AA) (tt : AA) (oo : LA) (a1 : Int32) (A : Nat → Prop) : Array Value → State → Outcome → State → Prop := va_Qi (S := LA) (fun r u => f_L_greedyCause xr gu ga oo a1 = (r, u)) (fun u t => QW D [(cI, .int), (cJ, .long)] A (W_O cI cJ x0 g0 g1 g2 g3 g4 l0 l1 l2 l3 l4 l5 t0 t1 t2 o0 xr xt gn gu gb ga lc lk ln lt ll lr tw tn tt u) t) A
set_option maxHeartbeats 4000000 in
set_option maxRecDepth 100000 in
theorem c_L_greedyCause (l : Launch)  (D : va_G) (cI : ClassId) (cJ : ClassId) (x0 g0 g1 g2 g3 g4 l0 l1 l2 l3 l4 l5 t0 t1 t2 o0 : Nat) (xr : Int32) (xt : Int32) (gn : AA) (gu : AA) (gb : AA) (ga : AA) (lc : Int32) (lk : AA) (ln : AA) (lt : AA) (ll : AA) (lr : AA) (tw : Int32) (tn : AA) (tt : AA) (oo : LA) (sz : Nat) (a1 : Int32) (hp : p_L_greedyCause xr gu ga a1) (hst : l.stackTraces = false) : Met l yL_greedyCause wsL_greedyCause rm_L_greedyCause (va_Pc [.ref x0, .int a1, .ref o0] (PX D [(cI, .int), (cJ, .long)] sz (W_O cI cJ x0 g0 g1 g2 g3 g4 l0 l1 l2 l3 l4 l5 t0 t1 t2 o0 xr xt gn gu gb ga lc lk ln lt ll lr tw tn tt oo))) (Q_L_greedyCause D cI cJ x0 g0 g1 g2 g3 g4 l0 l1 l2 l3 l4 l5 t0 t1 t2 o0 xr xt gn gu gb ga lc lk ln lt ll lr tw tn tt oo a1 (va_A (W_O cI cJ x0 g0 g1 g2 g3 g4 l0 l1 l2 l3 l4 l5 t0 t1 t2 o0 xr xt gn gu gb ga lc lk ln lt ll lr tw tn tt oo) sz)) 2 9 (va_A (W_O cI cJ x0 g0 g1 g2 g3 g4 l0 l1 l2 l3 l4 l5 t0 t1 t2 o0 xr xt gn gu gb ga lc lk ln lt ll lr tw tn tt oo) sz) := by
  refine va_MetW (cc := cL_greedyCause) (maxL := 4) (ret := (some .int)) (hh := [(0, 9, 12, 13)]) (by decide) rfl ?_
  intro p e s m args below meth c s₁ B hml hv
  obtain ⟨rfl, ⟨hsz, hP, hK, hD0, hN⟩, hXB⟩ := hv
  have hx := B.exec
  have hb := B.bytes
  have hr := B.returns
  have hts := atoms_spec (ws := wsL_greedyCause) B.pre
  have hown : s.vm.findClass RL = some m.cls := findClass_of_methodNamed B.named
  have hlocks := B.notSynchronized
  have htab := vx_table (x := yL_greedyCause) B (hts (.codeWith yL_greedyCause cL_greedyCause 4 (some .int) [(0, 9, 12, 13)]) (by decide +kernel))
  subst hsz
  have hD := hD0.self (sz := s.heap.size)
  generalize hAe : va_A (W_O cI cJ x0 g0 g1 g2 g3 g4 l0 l1 l2 l3 l4 l5 t0 t1 t2 o0 xr xt gn gu gb ga lc lk ln lt ll lr tw tn tt oo) s.heap.size = A at hD hXB ⊢
  have hA : ∀ q : Nat, s.heap.size ≤ q → A q := fun q h => by rw [← hAe]; exact Or.inr h
  have hS : va_S A s.heap s.heap [] := va_S.rf
  have hl := lv_entry ([.ref x0, .int a1, .ref o0]) (n := 4) (Nat.le_of_ble_eq_true rfl)
  rw [lg_entry_eq]
  generalize (lg_sl ([.ref x0, .int a1, .ref o0]) ++ List.replicate (4 - (lg_sl ([.ref x0, .int a1, .ref o0])).length) Slot.unset).toArray = ls at hl ⊢
  have hl : lv_has ls 4 [(0, .ref x0), (1, .int a1), (2, .ref o0)] := hl
  have he := f_L_greedyCause.eq_1 xr gu ga oo a1
  replace hp := Eq.mp (p_L_greedyCause.eq_1 ..) hp
  refine lv_aload_n hx hb dL_greedyCause_0 rfl (lv_at hl 2 rfl) ?_
  refine lv_iconst (v := 0) hx hb dL_greedyCause_1 (by decide) ?_
  refine lv_aload_n hx hb dL_greedyCause_2 rfl (lv_at hl 0 rfl) ?_
  refine lv_iload_n hx hb dL_greedyCause_3 rfl (lv_at hl 1 rfl) ?_
  have hq1 := hp.1
  replace hp := hp.2
  refine k_xcalli (S := Unit) (px := fun E => f_X4_greedyCause xr gu ga a1 = .inl E ∧ (E = eIO)) (wc := (W_X4 cI x0 g0 g1 g2 g3 g4 l0 l1 l2 l3 l4 l5 t0 t1 t2 xr xt gn gu gb ga lc lk ln lt ll lr tw tn tt)) (wr := [(o0, .inl (cJ, 1, .inr (.inl oo)))]) (w1 := fun u => (W_X4 cI x0 g0 g1 g2 g3 g4 l0 l1 l2 l3 l4 l5 t0 t1 t2 xr xt gn gu gb ga lc lk ln lt ll lr tw tn tt)) (fun u => (W_O cI cJ x0 g0 g1 g2 g3 g4 l0 l1 l2 l3 l4 l5 t0 t1 t2 o0 xr xt gn gu gb ga lc lk ln lt ll lr tw tn tt oo)) hP (hK.sub [0] rfl) hD hN hXB hS hA [0, 1, 2, 3, 4, 5, 6, 7, 8, 9, 10, 11, 12, 13, 14] [15] rfl rfl (by decide) (by decide) (by decide) [1, 2, 3, 4, 5, 6, 7, 8, 9, 10, 11, 12, 13, 14, 15, 0] (by decide) (fun _ => rfl) rfl (fun hg => vx_runV (As := [.int a1]) (rest := [.int 0, .ref o0]) ⟨hx, hb, hml, hown, hts⟩ (c_X4_greedyCause l D cI x0 g0 g1 g2 g3 g4 l0 l1 l2 l3 l4 l5 t0 t1 t2 xr xt gn gu gb ga lc lk ln lt ll lr tw tn tt _ a1 hq1 hst) (cwV 1 hts gL_greedyCause_X4_greedyCause rfl rfl rfl (by decide +kernel) ⟨Nat.le_of_ble_eq_true rfl, Nat.le_of_ble_eq_true rfl⟩) ⟨PX.blind, va_recv hK hP (ci := 4) (q0 := 0) rfl rfl, fun U hU hW => ⟨rfl, hg U hU hW⟩⟩ rfl rfl hl.1 rfl (lv_room (Nat.le_of_ble_eq_true rfl)) dL_greedyCause_4 ⟨Nat.le_of_ble_eq_true rfl, Nat.le_of_ble_eq_true rfl⟩) (fun E ce q9 H locs hw hP hD hS hc9 hv9 hcl9 => ?_) (fun r1 u H locs hw hP hD hS => ?_)
  · rw [hw.1] at he
    try dsimp only at he
    have hE := hw.2
    subst hE
    refine vx_catch (own := RL) (name := eIO) hown [] ⟨0, 9, 12, 13⟩ [] htab (fun z hz => absurd hz List.not_mem_nil) (by decide) (by decide) (hts (.classLink RL 13 eIO) (by decide +kernel)) (hXB.cast (w := .castable eIO eIO) (by decide +kernel)) hc9 hv9 hcl9 ?_
    refine lv_astore_n (lv' := [(3, .ref q9), (0, .ref x0), (1, .int a1), (2, .ref o0)]) hx hb dL_greedyCause_12 rfl hl (by decide) rfl (fun ls hl => ?_)
    refine lv_iconst (v := 1) hx hb dL_greedyCause_13 (by decide) ?_
    exact W.iret (v := 1) hx hb hr (fun t ht hW => ⟨⟨1, oo, rfl, he, by rw [ht]; exact hP, va_K.moved hW.alike hK, hD⟩, hS.F ht⟩) hS.2.2 dL_greedyCause_14
  · rw [hw] at he
    try dsimp only at he
    replace hp := hp r1 hw
    refine lv_i2l (v := (r1).toInt64) hx hb dL_greedyCause_7 rfl ?_
    refine va_last hx hb hK hP hD hS 15 1 rfl rfl (by unfold vp_in; decide) dL_greedyCause_8 (fun H locs hP hD hS => ?_)
    have hP : va_P D vwCl (W_O cI cJ x0 g0 g1 g2 g3 g4 l0 l1 l2 l3 l4 l5 t0 t1 t2 o0 xr xt gn gu gb ga lc lk ln lt ll lr tw tn tt (vp_updL oo (0 : Int32).toNatClampNeg ((r1).toInt64))) H := hP
    have hD : va_D A (W_O cI cJ x0 g0 g1 g2 g3 g4 l0 l1 l2 l3 l4 l5 t0 t1 t2 o0 xr xt gn gu gb ga lc lk ln lt ll lr tw tn tt (vp_updL oo (0 : Int32).toNatClampNeg ((r1).toInt64))) := hD
    refine lv_goto (tgt := 15) hx hb dL_greedyCause_9 (by decide) ?_
    refine lv_iconst (v := 0) hx hb dL_greedyCause_15 (by decide) ?_
    exact W.iret (v := 0) hx hb hr (fun t ht hW => ⟨⟨0, (vp_updL oo (0 : Int32).toNatClampNeg ((r1).toInt64)), rfl, he, by rw [ht]; exact hP, va_K.moved hW.alike hK, hD⟩, hS.F ht⟩) hS.2.2 dL_greedyCause_16
abbrev rm_L_causeOf : Room := { frames := 23, cells := 2, slots := 9, locals := 676 }
abbrev Q_L_causeOf (D : va_G) (cI : ClassId) (cJ : ClassId) (x0 g0 g1 g2 g3 g4 l0 l1 l2 l3 l4 l5 t0 t1 t2 o0 : Nat) (xr : Int32) (xt : Int32) (gn : AA) (gu : AA) (gb : AA) (ga : AA) (lc : Int32) (lk : AA) (ln : AA) (lt : AA) (ll : AA) (lr : AA) (tw : Int32) (tn : AA) (tt : AA) (oo : LA) (a1 : Int32) (A : Nat → Prop) : Array Value → State → Outcome → State → Prop := va_Qi (S := LA) (fun r u => f_L_causeOf xr gu gb ga oo a1 = (r, u)) (fun u t => QW D [(cI, .int), (cJ, .long)] A (W_O cI cJ x0 g0 g1 g2 g3 g4 l0 l1 l2 l3 l4 l5 t0 t1 t2 o0 xr xt gn gu gb ga lc lk ln lt ll lr tw tn tt u) t) A
set_option maxHeartbeats 4000000 in
set_option maxRecDepth 100000 in
theorem c_L_causeOf (l : Launch)  (D : va_G) (cI : ClassId) (cJ : ClassId) (x0 g0 g1 g2 g3 g4 l0 l1 l2 l3 l4 l5 t0 t1 t2 o0 : Nat) (xr : Int32) (xt : Int32) (gn : AA) (gu : AA) (gb : AA) (ga : AA) (lc : Int32) (lk : AA) (ln : AA) (lt : AA) (ll : AA) (lr : AA) (tw : Int32) (tn : AA) (tt : AA) (oo : LA) (sz : Nat) (a1 : Int32) (hp : p_L_causeOf xr gu gb ga a1) (hst : l.stackTraces = false) : Met l yL_causeOf wsL_causeOf rm_L_causeOf (va_Pc [.ref x0, .int a1, .ref o0] (PX D [(cI, .int), (cJ, .long)] sz (W_O cI cJ x0 g0 g1 g2 g3 g4 l0 l1 l2 l3 l4 l5 t0 t1 t2 o0 xr xt gn gu gb ga lc lk ln lt ll lr tw tn tt oo))) (Q_L_causeOf D cI cJ x0 g0 g1 g2 g3 g4 l0 l1 l2 l3 l4 l5 t0 t1 t2 o0 xr xt gn gu gb ga lc lk ln lt ll lr tw tn tt oo a1 (va_A (W_O cI cJ x0 g0 g1 g2 g3 g4 l0 l1 l2 l3 l4 l5 t0 t1 t2 o0 xr xt gn gu gb ga lc lk ln lt ll lr tw tn tt oo) sz)) 2 9 (va_A (W_O cI cJ x0 g0 g1 g2 g3 g4 l0 l1 l2 l3 l4 l5 t0 t1 t2 o0 xr xt gn gu gb ga lc lk ln lt ll lr tw tn tt oo) sz) := by
  refine va_MetW (cc := cL_causeOf) (maxL := 4) (ret := (some .int)) (hh := [(0, 9, 12, 13)]) (by decide) rfl ?_
  intro p e s m args below meth c s₁ B hml hv
  obtain ⟨rfl, ⟨hsz, hP, hK, hD0, hN⟩, hXB⟩ := hv
  have hx := B.exec
  have hb := B.bytes
  have hr := B.returns
  have hts := atoms_spec (ws := wsL_causeOf) B.pre
  have hown : s.vm.findClass RL = some m.cls := findClass_of_methodNamed B.named
  have hlocks := B.notSynchronized
  have htab := vx_table (x := yL_causeOf) B (hts (.codeWith yL_causeOf cL_causeOf 4 (some .int) [(0, 9, 12, 13)]) (by decide +kernel))
  subst hsz
  have hD := hD0.self (sz := s.heap.size)
  generalize hAe : va_A (W_O cI cJ x0 g0 g1 g2 g3 g4 l0 l1 l2 l3 l4 l5 t0 t1 t2 o0 xr xt gn gu gb ga lc lk ln lt ll lr tw tn tt oo) s.heap.size = A at hD hXB ⊢
  have hA : ∀ q : Nat, s.heap.size ≤ q → A q := fun q h => by rw [← hAe]; exact Or.inr h
  have hS : va_S A s.heap s.heap [] := va_S.rf
  have hl := lv_entry ([.ref x0, .int a1, .ref o0]) (n := 4) (Nat.le_of_ble_eq_true rfl)
  rw [lg_entry_eq]
  generalize (lg_sl ([.ref x0, .int a1, .ref o0]) ++ List.replicate (4 - (lg_sl ([.ref x0, .int a1, .ref o0])).length) Slot.unset).toArray = ls at hl ⊢
  have hl : lv_has ls 4 [(0, .ref x0), (1, .int a1), (2, .ref o0)] := hl
  have he := f_L_causeOf.eq_1 xr gu gb ga oo a1
  replace hp := Eq.mp (p_L_causeOf.eq_1 ..) hp
  refine lv_aload_n hx hb dL_causeOf_0 rfl (lv_at hl 2 rfl) ?_
  refine lv_iconst (v := 0) hx hb dL_causeOf_1 (by decide) ?_
  refine lv_aload_n hx hb dL_causeOf_2 rfl (lv_at hl 0 rfl) ?_
  refine lv_iload_n hx hb dL_causeOf_3 rfl (lv_at hl 1 rfl) ?_
  have hq1 := hp.1
  replace hp := hp.2
  refine k_xcalli (S := Unit) (px := fun E => f_X4_causeOf xr gu gb ga a1 = .inl E ∧ (E = eIO)) (wc := (W_X4 cI x0 g0 g1 g2 g3 g4 l0 l1 l2 l3 l4 l5 t0 t1 t2 xr xt gn gu gb ga lc lk ln lt ll lr tw tn tt)) (wr := [(o0, .inl (cJ, 1, .inr (.inl oo)))]) (w1 := fun u => (W_X4 cI x0 g0 g1 g2 g3 g4 l0 l1 l2 l3 l4 l5 t0 t1 t2 xr xt gn gu gb ga lc lk ln lt ll lr tw tn tt)) (fun u => (W_O cI cJ x0 g0 g1 g2 g3 g4 l0 l1 l2 l3 l4 l5 t0 t1 t2 o0 xr xt gn gu gb ga lc lk ln lt ll lr tw tn tt oo)) hP (hK.sub [0] rfl) hD hN hXB hS hA [0, 1, 2, 3, 4, 5, 6, 7, 8, 9, 10, 11, 12, 13, 14] [15] rfl rfl (by decide) (by decide) (by decide) [1, 2, 3, 4, 5, 6, 7, 8, 9, 10, 11, 12, 13, 14, 15, 0] (by decide) (fun _ => rfl) rfl (fun hg => vx_runV (As := [.int a1]) (rest := [.int 0, .ref o0]) ⟨hx, hb, hml, hown, hts⟩ (c_X4_causeOf l D cI x0 g0 g1 g2 g3 g4 l0 l1 l2 l3 l4 l5 t0 t1 t2 xr xt gn gu gb ga lc lk ln lt ll lr tw tn tt _ a1 hq1 hst) (cwV 1 hts gL_causeOf_X4_causeOf rfl rfl rfl (by decide +kernel) ⟨Nat.le_of_ble_eq_true rfl, Nat.le_of_ble_eq_true rfl⟩) ⟨PX.blind, va_recv hK hP (ci := 4) (q0 := 0) rfl rfl, fun U hU hW => ⟨rfl, hg U hU hW⟩⟩ rfl rfl hl.1 rfl (lv_room (Nat.le_of_ble_eq_true rfl)) dL_causeOf_4 ⟨Nat.le_of_ble_eq_true rfl, Nat.le_of_ble_eq_true rfl⟩) (fun E ce q9 H locs hw hP hD hS hc9 hv9 hcl9 => ?_) (fun r1 u H locs hw hP hD hS => ?_)
  · rw [hw.1] at he
    try dsimp only at he
    have hE := hw.2
    subst hE
    refine vx_catch (own := RL) (name := eIO) hown [] ⟨0, 9, 12, 13⟩ [] htab (fun z hz => absurd hz List.not_mem_nil) (by decide) (by decide) (hts (.classLink RL 13 eIO) (by decide +kernel)) (hXB.cast (w := .castable eIO eIO) (by decide +kernel)) hc9 hv9 hcl9 ?_
    refine lv_astore_n (lv' := [(3, .ref q9), (0, .ref x0), (1, .int a1), (2, .ref o0)]) hx hb dL_causeOf_12 rfl hl (by decide) rfl (fun ls hl => ?_)
    refine lv_iconst (v := 1) hx hb dL_causeOf_13 (by decide) ?_
    exact W.iret (v := 1) hx hb hr (fun t ht hW => ⟨⟨1, oo, rfl, he, by rw [ht]; exact hP, va_K.moved hW.alike hK, hD⟩, hS.F ht⟩) hS.2.2 dL_causeOf_14
  · rw [hw] at he
    try dsimp only at he
    replace hp := hp r1 hw
    refine lv_i2l (v := (r1).toInt64) hx hb dL_causeOf_7 rfl ?_
    refine va_last hx hb hK hP hD hS 15 1 rfl rfl (by unfold vp_in; decide) dL_causeOf_8 (fun H locs hP hD hS => ?_)
    have hP : va_P D vwCl (W_O cI cJ x0 g0 g1 g2 g3 g4 l0 l1 l2 l3 l4 l5 t0 t1 t2 o0 xr xt gn gu gb ga lc lk ln lt ll lr tw tn tt (vp_updL oo (0 : Int32).toNatClampNeg ((r1).toInt64))) H := hP
    have hD : va_D A (W_O cI cJ x0 g0 g1 g2 g3 g4 l0 l1 l2 l3 l4 l5 t0 t1 t2 o0 xr xt gn gu gb ga lc lk ln lt ll lr tw tn tt (vp_updL oo (0 : Int32).toNatClampNeg ((r1).toInt64))) := hD
    refine lv_goto (tgt := 15) hx hb dL_causeOf_9 (by decide) ?_
    refine lv_iconst (v := 0) hx hb dL_causeOf_15 (by decide) ?_
    exact W.iret (v := 0) hx hb hr (fun t ht hW => ⟨⟨0, (vp_updL oo (0 : Int32).toNatClampNeg ((r1).toInt64)), rfl, he, by rw [ht]; exact hP, va_K.moved hW.alike hK, hD⟩, hS.F ht⟩) hS.2.2 dL_causeOf_16
