abbrev rm_X0_search (n : Nat) : Room := { frames := n + 4, cells := 0, slots := 0, locals := n * 32 + 91 }
abbrev Q_X0_search (D : va_G) (cI : ClassId) (d0 g0 g1 g2 g3 g4 : Nat) (dr : Int32) (dp : Int32) (gn : AA) (gu : AA) (gb : AA) (ga : AA) (n : Nat) (a1 a2 a3 a4 a5 : Int32) (A : Nat → Prop) : Array Value → State → Outcome → State → Prop := va_Qi (S := Unit) (fun r u => f_X0_search dr gb ga n a1 a2 a3 a4 a5 = r) (fun u t => QW D [(cI, .int)] A (W_X0 cI d0 g0 g1 g2 g3 g4 dr dp gn gu gb ga) t) A
set_option maxHeartbeats 4000000 in
set_option maxRecDepth 100000 in
theorem c_X0_search (l : Launch)  (D : va_G) (cI : ClassId) (d0 g0 g1 g2 g3 g4 : Nat) (dr : Int32) (dp : Int32) (gn : AA) (gu : AA) (gb : AA) (ga : AA) : ∀ (nr : Nat) (sz : Nat) (a1 a2 a3 a4 a5 : Int32), p_X0_search dr gb ga nr a1 a2 a3 a4 a5 → Met l yX0_search wsX0_search (rm_X0_search nr) (va_Pc [.ref d0, .int a1, .int a2, .int a3, .int a4, .int a5] (PW D [(cI, .int)] sz (W_X0 cI d0 g0 g1 g2 g3 g4 dr dp gn gu gb ga))) (Q_X0_search D cI d0 g0 g1 g2 g3 g4 dr dp gn gu gb ga nr a1 a2 a3 a4 a5 (va_A (W_X0 cI d0 g0 g1 g2 g3 g4 dr dp gn gu gb ga) sz)) 0 0 (va_A (W_X0 cI d0 g0 g1 g2 g3 g4 dr dp gn gu gb ga) sz) := by
  intro nr
  induction nr with
  | zero => exact fun _ _ _ _ _ _ hp => hp.elim
  | succ nr ihn =>
    intro sz a1 a2 a3 a4 a5 hp
    refine Met.ofW (cc := cX0_search) (maxL := 13) (ret := (some .int)) (by decide) rfl ?_
    intro p e s m args below meth c s₁ B hml hv
    obtain ⟨rfl, hsz, hP, hK, hD0, hN⟩ := hv
    have hx := B.exec
    have hb := B.bytes
    have hr := B.returns
    have hts := atoms_spec (ws := wsX0_search) B.pre
    have hown : s.vm.findClass RX0 = some m.cls := findClass_of_methodNamed B.named
    have hlocks := B.notSynchronized
    subst hsz
    have hD := hD0.self (sz := s.heap.size)
    generalize hAe : va_A (W_X0 cI d0 g0 g1 g2 g3 g4 dr dp gn gu gb ga) s.heap.size = A at hD ⊢
    have hA : ∀ q : Nat, s.heap.size ≤ q → A q := fun q h => by rw [← hAe]; exact Or.inr h
    have hS : va_S A s.heap s.heap [] := va_S.rf
    have hl := lv_entry ([.ref d0, .int a1, .int a2, .int a3, .int a4, .int a5]) (n := 13) (Nat.le_of_ble_eq_true rfl)
    rw [lg_entry_eq]
    generalize (lg_sl ([.ref d0, .int a1, .int a2, .int a3, .int a4, .int a5]) ++ List.replicate (13 - (lg_sl ([.ref d0, .int a1, .int a2, .int a3, .int a4, .int a5])).length) Slot.unset).toArray = ls at hl ⊢
    have hl : lv_has ls 13 [(0, .ref d0), (1, .int a1), (2, .int a2), (3, .int a3), (4, .int a4), (5, .int a5)] := hl
    have he : f_X0_search dr gb ga (nr + 1) a1 a2 a3 a4 a5 = _ := f_X0_search.eq_2 ..
    replace hp := Eq.mp (p_X0_search.eq_2 ..) hp
    refine lv_iload_n hx hb dX0_search_0 rfl (lv_at hl 3 rfl) ?_
    refine lv_iconst (v := 0) hx hb dX0_search_1 (by decide) ?_
    have hq1 := hp.1
    replace hp := hp.2
    refine k_calli (S := Unit) (wc := ([] : va_W)) (wr := (W_X0 cI d0 g0 g1 g2 g3 g4 dr dp gn gu gb ga)) (w1 := fun u => ([] : va_W)) (fun u => (W_X0 cI d0 g0 g1 g2 g3 g4 dr dp gn gu gb ga)) hP hK hD hN hS hA [] [0, 1, 2, 3, 4, 5] rfl rfl (by decide) (by decide) (by decide) [0, 1, 2, 3, 4, 5] (by decide) (fun _ => rfl) (fun hg => va_runSN (As := [.int a3, .int 0]) (rest := []) ⟨hx, hb, hml, hown, hts⟩ (c_X4_nodeAtPlace l D cI _ a3 0 hq1) ⟨va_cnB 2 hts gX0_search_X4_nodeAtPlace_n55 rfl rfl rfl (hN.at 3 rfl) (hts (.initialized RX4) (by decide +kernel)) (by decide +kernel) ⟨by show 2 + 1 ≤ (nr + 1) + 4; omega, by show 8 + (4 + 11) + 41 ≤ (nr + 1) * 32 + 91; omega⟩, hts (.static yX4_nodeAtPlace) (by decide +kernel), trivial⟩ ⟨PW.blind, fun U hU hW => ⟨rfl, hg U hU hW⟩⟩ rfl rfl hl.1 rfl (lv_room (Nat.le_of_ble_eq_true rfl)) dX0_search_2 ⟨Nat.le_of_ble_eq_true rfl, Nat.le_of_ble_eq_true rfl⟩) (fun r1 u H locs hw hP hD hS => ?_)
    subst hw
    refine lv_istore (lv' := [(6, .int (f_X4_nodeAtPlace a3 (0 : Int32))), (0, .ref d0), (1, .int a1), (2, .int a2), (3, .int a3), (4, .int a4), (5, .int a5)]) hx hb dX0_search_5 hl (by decide) rfl (fun ls hl => ?_)
    refine lv_iload hx hb dX0_search_7 (lv_at hl 0 rfl) ?_
    refine lv_iconst (v := (-1)) hx hb dX0_search_9 (by decide) ?_
    refine lv_icmp_ne (tgt := 30) hx hb dX0_search_10 (by decide) (fun c2 => ?_) (fun c2 => ?_)
    · replace hp := hp.2 c2
      replace he := he.trans (if_neg c2)
      refine lv_iload hx hb dX0_search_30 (lv_at hl 6 rfl) ?_
      refine lv_istore (lv' := [(7, .int a5), (6, .int (f_X4_nodeAtPlace a3 (0 : Int32))), (0, .ref d0), (1, .int a1), (2, .int a2), (3, .int a3), (4, .int a4), (5, .int a5)]) hx hb dX0_search_32 hl (by decide) rfl (fun ls hl => ?_)
      refine lv_iload hx hb dX0_search_34 (lv_at hl 6 rfl) ?_
      refine lv_istore (lv' := [(8, .int a4), (7, .int a5), (6, .int (f_X4_nodeAtPlace a3 (0 : Int32))), (0, .ref d0), (1, .int a1), (2, .int a2), (3, .int a3), (4, .int a4), (5, .int a5)]) hx hb dX0_search_36 hl (by decide) rfl (fun ls hl => ?_)
      refine lv_aload_n hx hb dX0_search_38 rfl (lv_at hl 3 rfl) ?_
      refine va_get (D := D) (ci := 0) (v := .ref g0) (C := RX0) (T := TX0) (N := 3) hx hb hts (by decide +kernel) hown hK hP 0 rfl rfl 0 (by decide) (hts (.fieldLink RX0 9 "Alarmgrove$Diagnoser" "graph" "LAlarmgrove$Graph;") (by decide +kernel)) (fun _ h9 => h9) rfl dX0_search_39 ?_
      refine lv_iload hx hb dX0_search_42 (lv_at hl 2 rfl) ?_
      have hq3 := hp.1
      replace hp := hp.2
      refine k_calli (S := Unit) (wc := (W_X1 cI g0 g1 g2 g3 g4 gn gu gb ga)) (wr := [(d0, .inr (0, [.ref g0, .int dr, .int dp]))]) (w1 := fun u => (W_X1 cI g0 g1 g2 g3 g4 gn gu gb ga)) (fun u => (W_X0 cI d0 g0 g1 g2 g3 g4 dr dp gn gu gb ga)) hP hK hD hN hS hA [1, 2, 3, 4, 5] [0] rfl rfl (by decide) (by decide) (by decide) [0, 1, 2, 3, 4, 5] (by decide) (fun _ => rfl) (fun hg => va_runV (As := [.int (f_X4_nodeAtPlace a3 (0 : Int32))]) (rest := []) ⟨hx, hb, hml, hown, hts⟩ (c_X1_explainersOf l D cI g0 g1 g2 g3 g4 gn gu gb ga _ (f_X4_nodeAtPlace a3 (0 : Int32)) hq3) (cwV 1 hts gX0_search_X1_explainersOf rfl rfl rfl (by decide +kernel) ⟨by show 1 + 1 ≤ (nr + 1) + 4; omega, by show 8 + (2 + 11) + 20 ≤ (nr + 1) * 32 + 91; omega⟩) ⟨PW.blind, va_recv hK hP (ci := 1) (q0 := 1) rfl rfl, fun U hU hW => ⟨rfl, hg U hU hW⟩⟩ rfl rfl hl.1 rfl (lv_room (Nat.le_of_ble_eq_true rfl)) dX0_search_44 ⟨Nat.le_of_ble_eq_true rfl, Nat.le_of_ble_eq_true rfl⟩) (fun r3 u H locs hw hP hD hS => ?_)
      subst hw
      refine lv_iload hx hb dX0_search_47 (lv_at hl 7 rfl) ?_
      refine lv_iand hx hb dX0_search_49 ?_
      refine lv_istore (lv' := [(9, .int ((f_X1_explainersOf gb (f_X4_nodeAtPlace a3 (0 : Int32))) &&& a4)), (8, .int a4), (7, .int a5), (6, .int (f_X4_nodeAtPlace a3 (0 : Int32))), (0, .ref d0), (1, .int a1), (2, .int a2), (3, .int a3), (4, .int a4), (5, .int a5)]) hx hb dX0_search_50 hl (by decide) rfl (fun ls hl => ?_)
      refine lv_iconst (v := 0) hx hb dX0_search_52 (by decide) ?_
      refine lv_istore (lv' := [(10, .int 0), (9, .int ((f_X1_explainersOf gb (f_X4_nodeAtPlace a3 (0 : Int32))) &&& a4)), (8, .int a4), (7, .int a5), (6, .int (f_X4_nodeAtPlace a3 (0 : Int32))), (0, .ref d0), (1, .int a1), (2, .int a2), (3, .int a3), (4, .int a4), (5, .int a5)]) hx hb dX0_search_53 hl (by decide) rfl (fun ls hl => ?_)
      obtain ⟨⟨r4_v55_7, r4_v55_8, r4_v55_10⟩, hL4⟩ : ∃ z, z = f_X0_search_L55 gb ga a1 a2 a3 a4 (f_X0_search dr gb ga nr) 15 a5 a4 (0 : Int32) := ⟨_, rfl⟩
      rw [← hL4] at he
      try dsimp only at he
      have hpL4 := hp.1
      replace hp := hp.2 _ _ _ hL4.symm
      have kont4 : ∀ (x4_v55_7 : Int32) (x4_v55_8 : Int32) (x4_v55_10 : Int32), (r4_v55_7, r4_v55_8, r4_v55_10) = (x4_v55_7, x4_v55_8, x4_v55_10) → ∀ (H : Heap) (locs : List Loc), va_P D vwCl (W_X0 cI d0 g0 g1 g2 g3 g4 dr dp gn gu gb ga) H → va_D A (W_X0 cI d0 g0 g1 g2 g3 g4 dr dp gn gu gb ga) → va_S A s.heap H locs → ∀ ls : Array Slot, lv_has ls 13 [(7, .int x4_v55_7)] → W p l e (headSpec wsX0_search (rm_X0_search (nr + 1))).room s m ([.ref d0, .int a1, .int a2, .int a3, .int a4, .int a5] : List Value).toArray below meth c H locs 0 0 (MQ below (Q_X0_search D cI d0 g0 g1 g2 g3 g4 dr dp gn gu gb ga (nr + 1) a1 a2 a3 a4 a5 A) ([.ref d0, .int a1, .int a2, .int a3, .int a4, .int a5] : List Value).toArray s 0 0 A) (F0 m 154 ls []) := by
        intro x4_v55_7 x4_v55_8 x4_v55_10 hxe H locs hP hD hS ls hl
        simp only [Prod.mk.injEq] at hxe
        obtain ⟨rfl, rfl, rfl⟩ := hxe
        refine lv_iload hx hb dX0_search_154 (lv_at hl 0 rfl) ?_
        exact W.iret (v := r4_v55_7) hx hb hr (fun t ht hW => ⟨⟨r4_v55_7, (), rfl, he, by rw [ht]; exact hP, va_K.moved hW.alike hK, hD⟩, hS.F ht⟩) hS.2.2 dX0_search_156
      have loop4 : ∀ (n : Nat) (v55_7 : Int32) (v55_8 : Int32) (v55_10 : Int32), p_X0_search_L55 gb ga a1 a2 a3 a4 (f_X0_search dr gb ga nr) (p_X0_search dr gb ga nr) n v55_7 v55_8 v55_10 → (r4_v55_7, r4_v55_8, r4_v55_10) = f_X0_search_L55 gb ga a1 a2 a3 a4 (f_X0_search dr gb ga nr) n v55_7 v55_8 v55_10 → ∀ (H : Heap) (locs : List Loc), va_P D vwCl (W_X0 cI d0 g0 g1 g2 g3 g4 dr dp gn gu gb ga) H → va_D A (W_X0 cI d0 g0 g1 g2 g3 g4 dr dp gn gu gb ga) → va_S A s.heap H locs → ∀ ls : Array Slot, lv_has ls 13 [(10, .int v55_10), (9, .int ((f_X1_explainersOf gb (f_X4_nodeAtPlace a3 (0 : Int32))) &&& a4)), (8, .int v55_8), (7, .int v55_7), (0, .ref d0), (1, .int a1), (2, .int a2), (3, .int a3)] → W p l e (headSpec wsX0_search (rm_X0_search (nr + 1))).room s m ([.ref d0, .int a1, .int a2, .int a3, .int a4, .int a5] : List Value).toArray below meth c H locs 0 0 (MQ below (Q_X0_search D cI d0 g0 g1 g2 g3 g4 dr dp gn gu gb ga (nr + 1) a1 a2 a3 a4 a5 A) ([.ref d0, .int a1, .int a2, .int a3, .int a4, .int a5] : List Value).toArray s 0 0 A) (F0 m 55 ls []) := by
        intro n
        induction n with
        | zero => exact fun _ _ _ hp => hp.elim
        | succ n ih =>
          intro v55_7 v55_8 v55_10 hp he H locs hP hD hS ls hl
          replace hp := Eq.mp (p_X0_search_L55.eq_2 ..) hp
          replace he := he.trans (f_X0_search_L55.eq_2 ..)
          refine lv_iload hx hb dX0_search_55 (lv_at hl 0 rfl) ?_
          refine lv_bipush (v := 14) hx hb dX0_search_57 (by decide) ?_
          refine lv_icmp_ge (tgt := 154) hx hb dX0_search_59 (by decide) (fun c5 => ?_) (fun c5 => ?_)
          · replace hp := hp.1 c5
            replace he := he.trans (if_pos c5)
            exact kont4 _ _ _ he _ _ hP hD hS _ (lv_sub hl [3] rfl)
          · replace hp := hp.2 c5
            replace he := he.trans (if_neg c5)
            refine lv_iload_n hx hb dX0_search_62 rfl (lv_at hl 5 rfl) ?_
            refine lv_bipush (v := 14) hx hb dX0_search_63 (by decide) ?_
            obtain ⟨j6, hJ6⟩ : ∃ z : Int32, z = (if 14 ≤ a1 then (0 : Int32) else (if (f_J6_bitCount_0f7a4 v55_7) ≤ a1 then (0 : Int32) else (1 : Int32))) := ⟨_, rfl⟩
            rw [← hJ6] at he
            try dsimp only at he
            have hpJ6 := hp.1
            replace hp := hp.2 _  hJ6.symm
            have kont6 : (j6 = 0 ∨ j6 = 1) → ∀ (H : Heap) (locs : List Loc), va_P D vwCl (W_X0 cI d0 g0 g1 g2 g3 g4 dr dp gn gu gb ga) H → va_D A (W_X0 cI d0 g0 g1 g2 g3 g4 dr dp gn gu gb ga) → va_S A s.heap H locs → ∀ ls : Array Slot, lv_has ls 13 [(10, .int v55_10), (9, .int ((f_X1_explainersOf gb (f_X4_nodeAtPlace a3 (0 : Int32))) &&& a4)), (8, .int v55_8), (7, .int v55_7), (0, .ref d0), (1, .int a1), (2, .int a2), (3, .int a3)] → W p l e (headSpec wsX0_search (rm_X0_search (nr + 1))).room s m ([.ref d0, .int a1, .int a2, .int a3, .int a4, .int a5] : List Value).toArray below meth c H locs 0 0 (MQ below (Q_X0_search D cI d0 g0 g1 g2 g3 g4 dr dp gn gu gb ga (nr + 1) a1 a2 a3 a4 a5 A) ([.ref d0, .int a1, .int a2, .int a3, .int a4, .int a5] : List Value).toArray s 0 0 A) (F0 m 82 ls [.int j6]) := by
              intro hb6 H locs hP hD hS ls hl
              refine lv_istore (lv' := [(11, .int j6), (10, .int v55_10), (9, .int ((f_X1_explainersOf gb (f_X4_nodeAtPlace a3 (0 : Int32))) &&& a4)), (8, .int v55_8), (7, .int v55_7), (0, .ref d0), (1, .int a1), (2, .int a2), (3, .int a3)]) hx hb dX0_search_82 hl (by decide) rfl (fun ls hl => ?_)
              refine lv_iload hx hb dX0_search_84 (lv_at hl 2 rfl) ?_
              refine lv_iload hx hb dX0_search_86 (lv_at hl 1 rfl) ?_
              refine k_calli (S := Unit) (wc := ([] : va_W)) (wr := (W_X0 cI d0 g0 g1 g2 g3 g4 dr dp gn gu gb ga)) (w1 := fun u => ([] : va_W)) (fun u => (W_X0 cI d0 g0 g1 g2 g3 g4 dr dp gn gu gb ga)) hP hK hD hN hS hA [] [0, 1, 2, 3, 4, 5] rfl rfl (by decide) (by decide) (by decide) [0, 1, 2, 3, 4, 5] (by decide) (fun _ => rfl) (fun hg => va_runSN (As := [.int ((f_X1_explainersOf gb (f_X4_nodeAtPlace a3 (0 : Int32))) &&& a4), .int v55_10]) (rest := []) ⟨hx, hb, hml, hown, hts⟩ (c_X4_has l D cI _ ((f_X1_explainersOf gb (f_X4_nodeAtPlace a3 (0 : Int32))) &&& a4) v55_10) ⟨va_cnB 2 hts gX0_search_X4_has_n52 rfl rfl rfl (hN.at 2 rfl) (hts (.initialized RX4) (by decide +kernel)) (by decide +kernel) ⟨by show 1 + 1 ≤ (nr + 1) + 4; omega, by show 8 + (2 + 11) + 20 ≤ (nr + 1) * 32 + 91; omega⟩, hts (.static yX4_has) (by decide +kernel), trivial⟩ ⟨PW.blind, fun U hU hW => ⟨rfl, hg U hU hW⟩⟩ rfl rfl hl.1 rfl (lv_room (Nat.le_of_ble_eq_true rfl)) dX0_search_88 ⟨Nat.le_of_ble_eq_true rfl, Nat.le_of_ble_eq_true rfl⟩) (fun r10 u H locs hw hP hD hS => ?_)
              obtain ⟨hw, hb10⟩ := hw
              subst hw
              refine lv_if_eq (tgt := 148) hx hb dX0_search_91 (by decide) (fun c11 => ?_) (fun c11 => ?_)
              · replace hp := hp.1 c11
                replace he := he.trans (if_pos c11)
                refine lv_iinc (v := (v55_10 + 1)) (lv' := [(10, .int (v55_10 + 1)), (11, .int j6), (9, .int ((f_X1_explainersOf gb (f_X4_nodeAtPlace a3 (0 : Int32))) &&& a4)), (8, .int v55_8), (7, .int v55_7), (0, .ref d0), (1, .int a1), (2, .int a2), (3, .int a3)]) hx hb dX0_search_148 hl (k := 1) rfl rfl (by decide) rfl (fun ls hl => ?_)
                refine lv_goto (tgt := 55) hx hb dX0_search_151 (by decide) ?_
                exact ih _ _ _ hp he _ _ hP hD hS _ (lv_sub hl [0, 2, 3, 4, 5, 6, 7, 8] rfl)
              · replace hp := hp.2 c11
                replace he := he.trans (if_neg c11)
                refine lv_iload hx hb dX0_search_94 (lv_at hl 0 rfl) ?_
                refine lv_if_eq (tgt := 148) hx hb dX0_search_96 (by decide) (fun c12 => ?_) (fun c12 => ?_)
                · replace hp := hp.1 c12
                  replace he := he.trans (if_pos c12)
                  refine lv_iinc (v := (v55_10 + 1)) (lv' := [(10, .int (v55_10 + 1)), (11, .int j6), (9, .int ((f_X1_explainersOf gb (f_X4_nodeAtPlace a3 (0 : Int32))) &&& a4)), (8, .int v55_8), (7, .int v55_7), (0, .ref d0), (1, .int a1), (2, .int a2), (3, .int a3)]) hx hb dX0_search_148 hl (k := 1) rfl rfl (by decide) rfl (fun ls hl => ?_)
                  refine lv_goto (tgt := 55) hx hb dX0_search_151 (by decide) ?_
                  exact ih _ _ _ hp he _ _ hP hD hS _ (lv_sub hl [0, 2, 3, 4, 5, 6, 7, 8] rfl)
                · replace hp := hp.2 c12
                  replace he := he.trans (if_neg c12)
                  refine lv_iload hx hb dX0_search_99 (lv_at hl 3 rfl) ?_
                  refine lv_iload hx hb dX0_search_101 (lv_at hl 1 rfl) ?_
                  refine k_calli (S := Unit) (wc := ([] : va_W)) (wr := (W_X0 cI d0 g0 g1 g2 g3 g4 dr dp gn gu gb ga)) (w1 := fun u => ([] : va_W)) (fun u => (W_X0 cI d0 g0 g1 g2 g3 g4 dr dp gn gu gb ga)) hP hK hD hN hS hA [] [0, 1, 2, 3, 4, 5] rfl rfl (by decide) (by decide) (by decide) [0, 1, 2, 3, 4, 5] (by decide) (fun _ => rfl) (fun hg => va_runSN (As := [.int v55_10]) (rest := [.int v55_8]) ⟨hx, hb, hml, hown, hts⟩ (c_X4_only l D cI _ v55_10) ⟨va_cnB 1 hts gX0_search_X4_only_n62 rfl rfl rfl (hN.at 4 rfl) (hts (.initialized RX4) (by decide +kernel)) (by decide +kernel) ⟨by show 0 + 1 ≤ (nr + 1) + 4; omega, by show 8 + (1 + 11) + 0 ≤ (nr + 1) * 32 + 91; omega⟩, hts (.static yX4_only) (by decide +kernel), trivial⟩ ⟨PW.blind, fun U hU hW => ⟨rfl, hg U hU hW⟩⟩ rfl rfl hl.1 rfl (lv_room (Nat.le_of_ble_eq_true rfl)) dX0_search_103 ⟨Nat.le_of_ble_eq_true rfl, Nat.le_of_ble_eq_true rfl⟩) (fun r13 u H locs hw hP hD hS => ?_)
                  subst hw
                  refine lv_iconst (v := (-1)) hx hb dX0_search_106 (by decide) ?_
                  refine lv_ixor hx hb dX0_search_107 ?_
                  refine lv_iand hx hb dX0_search_108 ?_
                  refine lv_istore (lv' := [(8, .int (v55_8 &&& ((f_X4_only v55_10) ^^^ (-1)))), (11, .int j6), (10, .int v55_10), (9, .int ((f_X1_explainersOf gb (f_X4_nodeAtPlace a3 (0 : Int32))) &&& a4)), (7, .int v55_7), (0, .ref d0), (1, .int a1), (2, .int a2), (3, .int a3)]) hx hb dX0_search_109 hl (by decide) rfl (fun ls hl => ?_)
                  refine lv_iload_n hx hb dX0_search_111 rfl (lv_at hl 8 rfl) ?_
                  refine lv_aload_n hx hb dX0_search_112 rfl (lv_at hl 5 rfl) ?_
                  refine va_get (D := D) (ci := 0) (v := .ref g0) (C := RX0) (T := TX0) (N := 3) hx hb hts (by decide +kernel) hown hK hP 0 rfl rfl 0 (by decide) (hts (.fieldLink RX0 9 "Alarmgrove$Diagnoser" "graph" "LAlarmgrove$Graph;") (by decide +kernel)) (fun _ h9 => h9) rfl dX0_search_113 ?_
                  refine lv_iload hx hb dX0_search_116 (lv_at hl 2 rfl) ?_
                  have hq14 := hp.1
                  replace hp := hp.2
                  refine k_calli (S := Unit) (wc := (W_X1 cI g0 g1 g2 g3 g4 gn gu gb ga)) (wr := [(d0, .inr (0, [.ref g0, .int dr, .int dp]))]) (w1 := fun u => (W_X1 cI g0 g1 g2 g3 g4 gn gu gb ga)) (fun u => (W_X0 cI d0 g0 g1 g2 g3 g4 dr dp gn gu gb ga)) hP hK hD hN hS hA [1, 2, 3, 4, 5] [0] rfl rfl (by decide) (by decide) (by decide) [0, 1, 2, 3, 4, 5] (by decide) (fun _ => rfl) (fun hg => va_runV (As := [.int v55_10]) (rest := [.int a3]) ⟨hx, hb, hml, hown, hts⟩ (c_X1_explainedBy l D cI g0 g1 g2 g3 g4 gn gu gb ga _ v55_10 hq14) (cwV 1 hts gX0_search_X1_explainedBy rfl rfl rfl (by decide +kernel) ⟨by show 1 + 1 ≤ (nr + 1) + 4; omega, by show 8 + (2 + 11) + 20 ≤ (nr + 1) * 32 + 91; omega⟩) ⟨PW.blind, va_recv hK hP (ci := 1) (q0 := 1) rfl rfl, fun U hU hW => ⟨rfl, hg U hU hW⟩⟩ rfl rfl hl.1 rfl (lv_room (Nat.le_of_ble_eq_true rfl)) dX0_search_118 ⟨Nat.le_of_ble_eq_true rfl, Nat.le_of_ble_eq_true rfl⟩) (fun r14 u H locs hw hP hD hS => ?_)
                  subst hw
                  refine lv_iconst (v := (-1)) hx hb dX0_search_121 (by decide) ?_
                  refine lv_ixor hx hb dX0_search_122 ?_
                  refine lv_iand hx hb dX0_search_123 ?_
                  refine lv_istore (lv' := [(12, .int (a3 &&& ((f_X1_explainedBy ga v55_10) ^^^ (-1)))), (8, .int (v55_8 &&& ((f_X4_only v55_10) ^^^ (-1)))), (11, .int j6), (10, .int v55_10), (9, .int ((f_X1_explainersOf gb (f_X4_nodeAtPlace a3 (0 : Int32))) &&& a4)), (7, .int v55_7), (0, .ref d0), (1, .int a1), (2, .int a2), (3, .int a3)]) hx hb dX0_search_124 hl (by decide) rfl (fun ls hl => ?_)
                  refine lv_aload_n hx hb dX0_search_126 rfl (lv_at hl 6 rfl) ?_
                  refine lv_iload_n hx hb dX0_search_127 rfl (lv_at hl 7 rfl) ?_
                  refine lv_iconst (v := 1) hx hb dX0_search_128 (by decide) ?_
                  refine lv_iadd hx hb dX0_search_129 ?_
                  refine lv_iload_n hx hb dX0_search_130 rfl (lv_at hl 8 rfl) ?_
                  refine lv_iload hx hb dX0_search_131 (lv_at hl 3 rfl) ?_
                  refine k_calli (S := Unit) (wc := ([] : va_W)) (wr := (W_X0 cI d0 g0 g1 g2 g3 g4 dr dp gn gu gb ga)) (w1 := fun u => ([] : va_W)) (fun u => (W_X0 cI d0 g0 g1 g2 g3 g4 dr dp gn gu gb ga)) hP hK hD hN hS hA [] [0, 1, 2, 3, 4, 5] rfl rfl (by decide) (by decide) (by decide) [0, 1, 2, 3, 4, 5] (by decide) (fun _ => rfl) (fun hg => va_runSN (As := [.int v55_10]) (rest := [.int a2, .int (a1 + 1), .ref d0]) ⟨hx, hb, hml, hown, hts⟩ (c_X4_only l D cI _ v55_10) ⟨va_cnB 1 hts gX0_search_X4_only_n62 rfl rfl rfl (hN.at 4 rfl) (hts (.initialized RX4) (by decide +kernel)) (by decide +kernel) ⟨by show 0 + 1 ≤ (nr + 1) + 4; omega, by show 8 + (1 + 11) + 0 ≤ (nr + 1) * 32 + 91; omega⟩, hts (.static yX4_only) (by decide +kernel), trivial⟩ ⟨PW.blind, fun U hU hW => ⟨rfl, hg U hU hW⟩⟩ rfl rfl hl.1 rfl (lv_room (Nat.le_of_ble_eq_true rfl)) dX0_search_133 ⟨Nat.le_of_ble_eq_true rfl, Nat.le_of_ble_eq_true rfl⟩) (fun r15 u H locs hw hP hD hS => ?_)
                  subst hw
                  refine lv_ior hx hb dX0_search_136 ?_
                  refine lv_iload hx hb dX0_search_137 (lv_at hl 0 rfl) ?_
                  refine lv_iload hx hb dX0_search_139 (lv_at hl 1 rfl) ?_
                  refine lv_iload hx hb dX0_search_141 (lv_at hl 5 rfl) ?_
                  have hq16 := hp.1
                  replace hp := hp.2
                  refine k_calli (S := Unit) (wc := (W_X0 cI d0 g0 g1 g2 g3 g4 dr dp gn gu gb ga)) (wr := ([] : va_W)) (w1 := fun u => (W_X0 cI d0 g0 g1 g2 g3 g4 dr dp gn gu gb ga)) (fun u => (W_X0 cI d0 g0 g1 g2 g3 g4 dr dp gn gu gb ga)) hP hK hD hN hS hA [0, 1, 2, 3, 4, 5] [] rfl rfl (by decide) (by decide) (by decide) [0, 1, 2, 3, 4, 5] (by decide) (fun _ => rfl) (fun hg => va_runS (As := [.ref d0, .int (a1 + 1), .int (a2 ||| (f_X4_only v55_10)), .int (a3 &&& ((f_X1_explainedBy ga v55_10) ^^^ (-1))), .int (v55_8 &&& ((f_X4_only v55_10) ^^^ (-1))), .int v55_7]) (rest := []) ⟨hx, hb, hml, hown, hts⟩ (ihn _ (a1 + 1) (a2 ||| (f_X4_only v55_10)) (a3 &&& ((f_X1_explainedBy ga v55_10) ^^^ (-1))) (v55_8 &&& ((f_X4_only v55_10) ^^^ (-1))) v55_7 hq16) (va_cwS 6 hts gX0_search_X0_search rfl rfl rfl (by decide +kernel) ⟨by show (nr + 4) + 1 ≤ (nr + 1) + 4; omega, by show 8 + (13 + 11) + (nr * 32 + 91) ≤ (nr + 1) * 32 + 91; omega⟩) ⟨PW.blind, fun U hU hW => ⟨rfl, hg U hU hW⟩⟩ rfl rfl hl.1 rfl (lv_room (Nat.le_of_ble_eq_true rfl)) dX0_search_143 ⟨Nat.le_of_ble_eq_true rfl, Nat.le_of_ble_eq_true rfl⟩) (fun r16 u H locs hw hP hD hS => ?_)
                  subst hw
                  refine lv_topi (fun y17_7 hy17 => ?_)
                  rw [← hy17] at he
                  try dsimp only at he
                  replace hp := hp y17_7 hy17.symm
                  refine lv_istore (lv' := [(7, .int y17_7), (12, .int (a3 &&& ((f_X1_explainedBy ga v55_10) ^^^ (-1)))), (8, .int (v55_8 &&& ((f_X4_only v55_10) ^^^ (-1)))), (11, .int j6), (10, .int v55_10), (9, .int ((f_X1_explainersOf gb (f_X4_nodeAtPlace a3 (0 : Int32))) &&& a4)), (0, .ref d0), (1, .int a1), (2, .int a2), (3, .int a3)]) hx hb dX0_search_146 hl (by decide) rfl (fun ls hl => ?_)
                  refine lv_iinc (v := (v55_10 + 1)) (lv' := [(10, .int (v55_10 + 1)), (7, .int y17_7), (12, .int (a3 &&& ((f_X1_explainedBy ga v55_10) ^^^ (-1)))), (8, .int (v55_8 &&& ((f_X4_only v55_10) ^^^ (-1)))), (11, .int j6), (9, .int ((f_X1_explainersOf gb (f_X4_nodeAtPlace a3 (0 : Int32))) &&& a4)), (0, .ref d0), (1, .int a1), (2, .int a2), (3, .int a3)]) hx hb dX0_search_148 hl (k := 4) rfl rfl (by decide) rfl (fun ls hl => ?_)
                  refine lv_goto (tgt := 55) hx hb dX0_search_151 (by decide) ?_
                  exact ih _ _ _ hp he _ _ hP hD hS _ (lv_sub hl [0, 5, 3, 1, 6, 7, 8, 9] rfl)
            replace he := hJ6
            replace hp := hpJ6
            refine lv_icmp_ge (tgt := 81) hx hb dX0_search_65 (by decide) (fun c7 => ?_) (fun c7 => ?_)
            · replace hp := hp.1 c7
              replace he := he.trans (if_pos c7)
              refine lv_iconst (v := 0) hx hb dX0_search_81 (by decide) ?_
              subst he
              exact kont6 (Or.inl rfl) _ _ hP hD hS _ (lv_sub hl [0, 1, 2, 3, 4, 5, 6, 7] rfl)
            · replace hp := hp.2 c7
              replace he := he.trans (if_neg c7)
              refine lv_iload_n hx hb dX0_search_68 rfl (lv_at hl 5 rfl) ?_
              refine lv_iload hx hb dX0_search_69 (lv_at hl 3 rfl) ?_
              refine k_calli (S := Unit) (wc := ([] : va_W)) (wr := (W_X0 cI d0 g0 g1 g2 g3 g4 dr dp gn gu gb ga)) (w1 := fun u => ([] : va_W)) (fun u => (W_X0 cI d0 g0 g1 g2 g3 g4 dr dp gn gu gb ga)) hP hK hD hN hS hA [] [0, 1, 2, 3, 4, 5] rfl rfl (by decide) (by decide) (by decide) [0, 1, 2, 3, 4, 5] (by decide) (fun _ => rfl) (fun hg => va_runS (As := [.int v55_7]) (rest := [.int a1]) ⟨hx, hb, hml, hown, hts⟩ (c_J6_bitCount_0f7a4 l D cI _ v55_7) (va_cwS 1 hts gX0_search_J6_bitCount_0f7a4 rfl rfl rfl (by decide +kernel) ⟨by show 0 + 1 ≤ (nr + 1) + 4; omega, by show 8 + (1 + 11) + 0 ≤ (nr + 1) * 32 + 91; omega⟩) ⟨PW.blind, fun U hU hW => ⟨rfl, hg U hU hW⟩⟩ rfl rfl hl.1 rfl (lv_room (Nat.le_of_ble_eq_true rfl)) dX0_search_71 ⟨Nat.le_of_ble_eq_true rfl, Nat.le_of_ble_eq_true rfl⟩) (fun r8 u H locs hw hP hD hS => ?_)
              subst hw
              refine lv_icmp_ge (tgt := 81) hx hb dX0_search_74 (by decide) (fun c9 => ?_) (fun c9 => ?_)
              · replace hp := hp.1 c9
                replace he := he.trans (if_pos c9)
                refine lv_iconst (v := 0) hx hb dX0_search_81 (by decide) ?_
                subst he
                exact kont6 (Or.inl rfl) _ _ hP hD hS _ (lv_sub hl [0, 1, 2, 3, 4, 5, 6, 7] rfl)
              · replace hp := hp.2 c9
                replace he := he.trans (if_neg c9)
                refine lv_iconst (v := 1) hx hb dX0_search_77 (by decide) ?_
                refine lv_goto (tgt := 82) hx hb dX0_search_78 (by decide) ?_
                subst he
                exact kont6 (Or.inr rfl) _ _ hP hD hS _ (lv_sub hl [0, 1, 2, 3, 4, 5, 6, 7] rfl)
      exact loop4 15 a5 a4 (0 : Int32) hpL4 hL4 _ _ hP hD hS _ (lv_sub hl [0, 1, 2, 3, 5, 6, 7, 8] rfl)
    · replace hp := hp.1 c2
      replace he := he.trans (if_pos c2)
      refine lv_aload_n hx hb dX0_search_13 rfl (lv_at hl 1 rfl) ?_
      refine lv_iload_n hx hb dX0_search_14 rfl (lv_at hl 3 rfl) ?_
      refine lv_iload hx hb dX0_search_15 (lv_at hl 6 rfl) ?_
      have hq18 := hp.1
      replace hp := hp.2
      refine k_calli (S := Unit) (wc := (W_X0 cI d0 g0 g1 g2 g3 g4 dr dp gn gu gb ga)) (wr := ([] : va_W)) (w1 := fun u => (W_X0 cI d0 g0 g1 g2 g3 g4 dr dp gn gu gb ga)) (fun u => (W_X0 cI d0 g0 g1 g2 g3 g4 dr dp gn gu gb ga)) hP hK hD hN hS hA [0, 1, 2, 3, 4, 5] [] rfl rfl (by decide) (by decide) (by decide) [0, 1, 2, 3, 4, 5] (by decide) (fun _ => rfl) (fun hg => va_runV (As := [.int a2, .int a5]) (rest := []) ⟨hx, hb, hml, hown, hts⟩ (c_X0_isBetter l D cI d0 g0 g1 g2 g3 g4 dr dp gn gu gb ga _ a2 a5 hq18) (cwV 2 hts gX0_search_X0_isBetter rfl rfl rfl (by decide +kernel) ⟨by show 3 + 1 ≤ (nr + 1) + 4; omega, by show 8 + (8 + 11) + 64 ≤ (nr + 1) * 32 + 91; omega⟩) ⟨PW.blind, va_recv hK hP (ci := 0) (q0 := 0) rfl rfl, fun U hU hW => ⟨rfl, hg U hU hW⟩⟩ rfl rfl hl.1 rfl (lv_room (Nat.le_of_ble_eq_true rfl)) dX0_search_17 ⟨Nat.le_of_ble_eq_true rfl, Nat.le_of_ble_eq_true rfl⟩) (fun r18 u H locs hw hP hD hS => ?_)
      obtain ⟨hw, hb18⟩ := hw
      subst hw
      obtain ⟨j19, hJ19⟩ : ∃ z : Int32, z = (if (f_X0_isBetter dr a2 a5) = 0 then a5 else a2) := ⟨_, rfl⟩
      rw [← hJ19] at he
      try dsimp only at he
      have hpJ19 := hp.1
      replace hp := hp.2 _  hJ19.symm
      have kont19 : ∀ (H : Heap) (locs : List Loc), va_P D vwCl (W_X0 cI d0 g0 g1 g2 g3 g4 dr dp gn gu gb ga) H → va_D A (W_X0 cI d0 g0 g1 g2 g3 g4 dr dp gn gu gb ga) → va_S A s.heap H locs → ∀ ls : Array Slot, lv_has ls 13 [] → W p l e (headSpec wsX0_search (rm_X0_search (nr + 1))).room s m ([.ref d0, .int a1, .int a2, .int a3, .int a4, .int a5] : List Value).toArray below meth c H locs 0 0 (MQ below (Q_X0_search D cI d0 g0 g1 g2 g3 g4 dr dp gn gu gb ga (nr + 1) a1 a2 a3 a4 a5 A) ([.ref d0, .int a1, .int a2, .int a3, .int a4, .int a5] : List Value).toArray s 0 0 A) (F0 m 29 ls [.int j19]) := by
        intro H locs hP hD hS ls hl
        exact W.iret (v := j19) hx hb hr (fun t ht hW => ⟨⟨j19, (), rfl, he, by rw [ht]; exact hP, va_K.moved hW.alike hK, hD⟩, hS.F ht⟩) hS.2.2 dX0_search_29
      replace he := hJ19
      replace hp := hpJ19
      refine lv_if_eq (tgt := 27) hx hb dX0_search_20 (by decide) (fun c20 => ?_) (fun c20 => ?_)
      · replace hp := hp.1 c20
        replace he := he.trans (if_pos c20)
        refine lv_iload hx hb dX0_search_27 (lv_at hl 6 rfl) ?_
        subst he
        exact kont19 _ _ hP hD hS _ (lv_sub hl [] rfl)
      · replace hp := hp.2 c20
        replace he := he.trans (if_neg c20)
        refine lv_iload_n hx hb dX0_search_23 rfl (lv_at hl 3 rfl) ?_
        refine lv_goto (tgt := 29) hx hb dX0_search_24 (by decide) ?_
        subst he
        exact kont19 _ _ hP hD hS _ (lv_sub hl [] rfl)
