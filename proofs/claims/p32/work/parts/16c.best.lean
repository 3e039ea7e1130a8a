abbrev rm_L_isBest : Room := { frames := 1, cells := 0, slots := 0, locals := 23 }
abbrev Q_L_isBest (D : va_G) (cI : ClassId) (k0 : Nat) (kl : AA) (a1 a2 a3 : Int32) (A : Nat → Prop) : Array Value → State → Outcome → State → Prop := va_Qi (S := Unit) (fun r u => f_L_isBest kl a1 a2 a3 = r ∧ (r = 0 ∨ r = 1)) (fun u t => QW D [(cI, .int)] A (W_A cI k0 kl) t) A
set_option maxHeartbeats 60000000 in
set_option maxRecDepth 100000 in
theorem c_L_isBest (l : Launch)  (D : va_G) (cI : ClassId) (k0 : Nat) (kl : AA) (sz : Nat) (a1 a2 a3 : Int32) (hp : p_L_isBest kl a1 a2 a3) : Met l yL_isBest wsL_isBest rm_L_isBest (va_Pc [.ref k0, .int a1, .int a2, .int a3] (PW D [(cI, .int)] sz (W_A cI k0 kl))) (Q_L_isBest D cI k0 kl a1 a2 a3 (va_A (W_A cI k0 kl) sz)) 0 0 (va_A (W_A cI k0 kl) sz) := by
  refine Met.ofW (cc := cL_isBest) (maxL := 10) (ret := (some .boolean)) (by decide) rfl ?_
  intro p e s m args below meth c s₁ B hml hv
  obtain ⟨rfl, hsz, hP, hK, hD0, hN⟩ := hv
  have hx := B.exec
  have hb := B.bytes
  have hr := B.returns
  have hts := atoms_spec (ws := wsL_isBest) B.pre
  have hown : s.vm.findClass RL = some m.cls := findClass_of_methodNamed B.named
  have hlocks := B.notSynchronized
  subst hsz
  have hD := hD0.self (sz := s.heap.size)
  generalize hAe : va_A (W_A cI k0 kl) s.heap.size = A at hD ⊢
  have hA : ∀ q : Nat, s.heap.size ≤ q → A q := fun q h => by rw [← hAe]; exact Or.inr h
  have hS : va_S A s.heap s.heap [] := va_S.rf
  have hl := lv_entry ([.ref k0, .int a1, .int a2, .int a3]) (n := 10) (Nat.le_of_ble_eq_true rfl)
  rw [lg_entry_eq]
  generalize (lg_sl ([.ref k0, .int a1, .int a2, .int a3]) ++ List.replicate (10 - (lg_sl ([.ref k0, .int a1, .int a2, .int a3])).length) Slot.unset).toArray = ls at hl ⊢
  have hl : lv_has ls 10 [(0, .ref k0), (1, .int a1), (2, .int a2), (3, .int a3)] := hl
  have he := f_L_isBest.eq_1 kl a1 a2 a3
  replace hp := Eq.mp (p_L_isBest.eq_1 ..) hp
  refine lv_iload_n hx hb dL_isBest_0 rfl (lv_at hl 3 rfl) ?_
  refine lv_iload_n hx hb dL_isBest_1 rfl (lv_at hl 1 rfl) ?_
  refine lv_iconst (v := (-1)) hx hb dL_isBest_2 (by decide) ?_
  refine lv_ixor hx hb dL_isBest_3 ?_
  refine lv_iand hx hb dL_isBest_4 ?_
  obtain ⟨j1, hJ1⟩ : ∃ z : Int32, z = (if (a3 &&& (a1 ^^^ (-1))) = 0 then (if ((f_L_all kl a3) &&& a2) = a2 then (1 : Int32) else (0 : Int32)) else (0 : Int32)) := ⟨_, rfl⟩
  rw [← hJ1] at he
  try dsimp only at he
  have hpJ1 := hp.1
  replace hp := hp.2 _  hJ1.symm
  have kont1 : (j1 = 0 ∨ j1 = 1) → ∀ (H : Heap) (locs : List Loc), va_P D vwCl (W_A cI k0 kl) H → va_D A (W_A cI k0 kl) → va_S A s.heap H locs → ∀ ls : Array Slot, lv_has ls 10 [(0, .ref k0), (1, .int a1), (2, .int a2), (3, .int a3)] → W p l e (headSpec wsL_isBest rm_L_isBest).room s m ([.ref k0, .int a1, .int a2, .int a3] : List Value).toArray below meth c H locs 0 0 (MQ below (Q_L_isBest D cI k0 kl a1 a2 a3 A) ([.ref k0, .int a1, .int a2, .int a3] : List Value).toArray s 0 0 A) (F0 m 24 ls [.int j1]) := by
    intro hb1 H locs hP hD hS ls hl
    refine lv_istore (lv' := [(4, .int j1), (0, .ref k0), (1, .int a1), (2, .int a2), (3, .int a3)]) hx hb dL_isBest_24 hl (by decide) rfl (fun ls hl => ?_)
    refine lv_iconst (v := 0) hx hb dL_isBest_26 (by decide) ?_
    refine lv_istore (lv' := [(5, .int 0), (4, .int j1), (0, .ref k0), (1, .int a1), (2, .int a2), (3, .int a3)]) hx hb dL_isBest_27 hl (by decide) rfl (fun ls hl => ?_)
    obtain ⟨⟨r5_v29_4, r5_v29_5⟩, hL5⟩ : ∃ z, z = f_L_isBest_L29 kl a1 a2 a3 16385 j1 (0 : Int32) := ⟨_, rfl⟩
    rw [← hL5] at he
    try dsimp only at he
    have hpL5 := hp.1
    replace hp := hp.2 _ _ hL5.symm
    have kont5 : ∀ (x5_v29_4 : Int32) (x5_v29_5 : Int32), (r5_v29_4, r5_v29_5) = (x5_v29_4, x5_v29_5) → ∀ (H : Heap) (locs : List Loc), va_P D vwCl (W_A cI k0 kl) H → va_D A (W_A cI k0 kl) → va_S A s.heap H locs → ∀ ls : Array Slot, lv_has ls 10 [(4, .int x5_v29_4)] → W p l e (headSpec wsL_isBest rm_L_isBest).room s m ([.ref k0, .int a1, .int a2, .int a3] : List Value).toArray below meth c H locs 0 0 (MQ below (Q_L_isBest D cI k0 kl a1 a2 a3 A) ([.ref k0, .int a1, .int a2, .int a3] : List Value).toArray s 0 0 A) (F0 m 190 ls []) := by
      intro x5_v29_4 x5_v29_5 hxe H locs hP hD hS ls hl
      simp only [Prod.mk.injEq] at hxe
      obtain ⟨rfl, rfl⟩ := hxe
      refine lv_iload hx hb dL_isBest_190 (lv_at hl 0 rfl) ?_
      have hz9 := hp.1
      replace hp := hp.2
      exact W.zret (ty := .boolean) (v := r5_v29_4) hx hb hr (by rcases hz9 with h9 | h9 <;> rw [h9] <;> rfl) (fun t ht hW => ⟨⟨r5_v29_4, (), rfl, ⟨he, hz9⟩, by rw [ht]; exact hP, va_K.moved hW.alike hK, hD⟩, hS.F ht⟩) hS.2.2 dL_isBest_192
    have loop5 : ∀ (n : Nat) (v29_4 : Int32) (v29_5 : Int32), p_L_isBest_L29 kl a1 a2 a3 n v29_4 v29_5 → (r5_v29_4, r5_v29_5) = f_L_isBest_L29 kl a1 a2 a3 n v29_4 v29_5 → ∀ (H : Heap) (locs : List Loc), va_P D vwCl (W_A cI k0 kl) H → va_D A (W_A cI k0 kl) → va_S A s.heap H locs → ∀ ls : Array Slot, lv_has ls 10 [(5, .int v29_5), (4, .int v29_4), (0, .ref k0), (1, .int a1), (2, .int a2), (3, .int a3)] → W p l e (headSpec wsL_isBest rm_L_isBest).room s m ([.ref k0, .int a1, .int a2, .int a3] : List Value).toArray below meth c H locs 0 0 (MQ below (Q_L_isBest D cI k0 kl a1 a2 a3 A) ([.ref k0, .int a1, .int a2, .int a3] : List Value).toArray s 0 0 A) (F0 m 29 ls []) := by
      intro n
      induction n with
      | zero => exact fun _ _ hp => hp.elim
      | succ n ih =>
        intro v29_4 v29_5 hp he H locs hP hD hS ls hl
        replace hp := Eq.mp (p_L_isBest_L29.eq_2 ..) hp
        replace he := he.trans (f_L_isBest_L29.eq_2 ..)
        refine lv_iload hx hb dL_isBest_29 (lv_at hl 0 rfl) ?_
        refine lv_sipush (v := 16384) hx hb dL_isBest_31 (by decide) ?_
        refine lv_icmp_ge (tgt := 190) hx hb dL_isBest_34 (by decide) (fun c6 => ?_) (fun c6 => ?_)
        · replace hp := hp.1 c6
          replace he := he.trans (if_pos c6)
          exact kont5 _ _ he _ _ hP hD hS _ (lv_sub hl [1] rfl)
        · replace hp := hp.2 c6
          replace he := he.trans (if_neg c6)
          refine lv_iload hx hb dL_isBest_37 (lv_at hl 1 rfl) ?_
          refine lv_if_eq (tgt := 190) hx hb dL_isBest_39 (by decide) (fun c7 => ?_) (fun c7 => ?_)
          · replace hp := hp.1 c7
            replace he := he.trans (if_pos c7)
            exact kont5 _ _ he _ _ hP hD hS _ (lv_sub hl [1] rfl)
          · replace hp := hp.2 c7
            replace he := he.trans (if_neg c7)
            refine lv_iload hx hb dL_isBest_42 (lv_at hl 0 rfl) ?_
            refine lv_iload_n hx hb dL_isBest_44 rfl (lv_at hl 3 rfl) ?_
            refine lv_iconst (v := (-1)) hx hb dL_isBest_45 (by decide) ?_
            refine lv_ixor hx hb dL_isBest_46 ?_
            refine lv_iand hx hb dL_isBest_47 ?_
            refine lv_if_ne (tgt := 184) hx hb dL_isBest_48 (by decide) (fun c8 => ?_) (fun c8 => ?_)
            · replace hp := hp.2 c8
              replace he := he.trans (if_neg c8)
              refine lv_iinc (v := (v29_5 + 1)) (lv' := [(5, .int (v29_5 + 1)), (4, .int v29_4), (0, .ref k0), (1, .int a1), (2, .int a2), (3, .int a3)]) hx hb dL_isBest_184 hl (k := 0) rfl rfl (by decide) rfl (fun ls hl => ?_)
              refine lv_goto (tgt := 29) hx hb dL_isBest_187 (by decide) ?_
              exact ih _ _ hp he _ _ hP hD hS _ (lv_sub hl [0, 1, 2, 3, 4, 5] rfl)
            · replace hp := hp.1 c8
              replace he := he.trans (if_pos c8)
              refine lv_iload hx hb dL_isBest_51 (lv_at hl 0 rfl) ?_
              have hq9 := hp.1
              replace hp := hp.2
              refine k_calli (S := Unit) (wc := ([] : va_W)) (wr := (W_A cI k0 kl)) (w1 := fun u => ([] : va_W)) (fun u => (W_A cI k0 kl)) hP hK hD hN hS hA [] [0] rfl rfl (by decide) (by decide) (by decide) [0] (by decide) (fun _ => rfl) (fun hg => va_runS (As := [.int v29_5]) (rest := []) ⟨hx, hb, hml, hown, hts⟩ (c_L_size l D cI _ v29_5 hq9) (va_cwS 1 hts gL_isBest_L_size rfl rfl rfl (by decide +kernel) ⟨Nat.le_of_ble_eq_true rfl, Nat.le_of_ble_eq_true rfl⟩) ⟨PW.blind, fun U hU hW => ⟨rfl, hg U hU hW⟩⟩ rfl rfl hl.1 rfl (lv_room (Nat.le_of_ble_eq_true rfl)) dL_isBest_53 ⟨Nat.le_of_ble_eq_true rfl, Nat.le_of_ble_eq_true rfl⟩) (fun r9 u H locs hw hP hD hS => ?_)
              subst hw
              refine lv_iload_n hx hb dL_isBest_56 rfl (lv_at hl 5 rfl) ?_
              have hq10 := hp.1
              replace hp := hp.2
              refine k_calli (S := Unit) (wc := ([] : va_W)) (wr := (W_A cI k0 kl)) (w1 := fun u => ([] : va_W)) (fun u => (W_A cI k0 kl)) hP hK hD hN hS hA [] [0] rfl rfl (by decide) (by decide) (by decide) [0] (by decide) (fun _ => rfl) (fun hg => va_runS (As := [.int a3]) (rest := [.int (f_L_size v29_5)]) ⟨hx, hb, hml, hown, hts⟩ (c_L_size l D cI _ a3 hq10) (va_cwS 1 hts gL_isBest_L_size rfl rfl rfl (by decide +kernel) ⟨Nat.le_of_ble_eq_true rfl, Nat.le_of_ble_eq_true rfl⟩) ⟨PW.blind, fun U hU hW => ⟨rfl, hg U hU hW⟩⟩ rfl rfl hl.1 rfl (lv_room (Nat.le_of_ble_eq_true rfl)) dL_isBest_57 ⟨Nat.le_of_ble_eq_true rfl, Nat.le_of_ble_eq_true rfl⟩) (fun r10 u H locs hw hP hD hS => ?_)
              subst hw
              refine lv_icmp_gt (tgt := 184) hx hb dL_isBest_60 (by decide) (fun c11 => ?_) (fun c11 => ?_)
              · replace hp := hp.1 c11
                replace he := he.trans (if_pos c11)
                refine lv_iinc (v := (v29_5 + 1)) (lv' := [(5, .int (v29_5 + 1)), (4, .int v29_4), (0, .ref k0), (1, .int a1), (2, .int a2), (3, .int a3)]) hx hb dL_isBest_184 hl (k := 0) rfl rfl (by decide) rfl (fun ls hl => ?_)
                refine lv_goto (tgt := 29) hx hb dL_isBest_187 (by decide) ?_
                exact ih _ _ hp he _ _ hP hD hS _ (lv_sub hl [0, 1, 2, 3, 4, 5] rfl)
              · replace hp := hp.2 c11
                replace he := he.trans (if_neg c11)
                refine lv_aload_n hx hb dL_isBest_63 rfl (lv_at hl 2 rfl) ?_
                refine lv_iload hx hb dL_isBest_64 (lv_at hl 0 rfl) ?_
                have hq12 := hp.1
                replace hp := hp.2
                refine k_calli (S := Unit) (wc := (W_A cI k0 kl)) (wr := ([] : va_W)) (w1 := fun u => (W_A cI k0 kl)) (fun u => (W_A cI k0 kl)) hP hK hD hN hS hA [0] [] rfl rfl (by decide) (by decide) (by decide) [0] (by decide) (fun _ => rfl) (fun hg => va_runS (As := [.ref k0, .int v29_5]) (rest := []) ⟨hx, hb, hml, hown, hts⟩ (c_L_all l D cI k0 kl _ v29_5 hq12) (va_cwS 2 hts gL_isBest_L_all rfl rfl rfl (by decide +kernel) ⟨Nat.le_of_ble_eq_true rfl, Nat.le_of_ble_eq_true rfl⟩) ⟨PW.blind, fun U hU hW => ⟨rfl, hg U hU hW⟩⟩ rfl rfl hl.1 rfl (lv_room (Nat.le_of_ble_eq_true rfl)) dL_isBest_66 ⟨Nat.le_of_ble_eq_true rfl, Nat.le_of_ble_eq_true rfl⟩) (fun r12 u H locs hw hP hD hS => ?_)
                subst hw
                refine lv_iload_n hx hb dL_isBest_69 rfl (lv_at hl 4 rfl) ?_
                refine lv_iand hx hb dL_isBest_70 ?_
                refine lv_iload_n hx hb dL_isBest_71 rfl (lv_at hl 4 rfl) ?_
                refine lv_icmp_ne (tgt := 184) hx hb dL_isBest_72 (by decide) (fun c13 => ?_) (fun c13 => ?_)
                · replace hp := hp.2 c13
                  replace he := he.trans (if_neg c13)
                  refine lv_iinc (v := (v29_5 + 1)) (lv' := [(5, .int (v29_5 + 1)), (4, .int v29_4), (0, .ref k0), (1, .int a1), (2, .int a2), (3, .int a3)]) hx hb dL_isBest_184 hl (k := 0) rfl rfl (by decide) rfl (fun ls hl => ?_)
                  refine lv_goto (tgt := 29) hx hb dL_isBest_187 (by decide) ?_
                  exact ih _ _ hp he _ _ hP hD hS _ (lv_sub hl [0, 1, 2, 3, 4, 5] rfl)
                · replace hp := hp.1 c13
                  replace he := he.trans (if_pos c13)
                  refine lv_iload hx hb dL_isBest_75 (lv_at hl 0 rfl) ?_
                  refine lv_iload_n hx hb dL_isBest_77 rfl (lv_at hl 4 rfl) ?_
                  refine lv_iand hx hb dL_isBest_78 ?_
                  have hq14 := hp.1
                  replace hp := hp.2
                  refine k_calli (S := Unit) (wc := ([] : va_W)) (wr := (W_A cI k0 kl)) (w1 := fun u => ([] : va_W)) (fun u => (W_A cI k0 kl)) hP hK hD hN hS hA [] [0] rfl rfl (by decide) (by decide) (by decide) [0] (by decide) (fun _ => rfl) (fun hg => va_runS (As := [.int (v29_5 &&& a2)]) (rest := []) ⟨hx, hb, hml, hown, hts⟩ (c_L_size l D cI _ (v29_5 &&& a2) hq14) (va_cwS 1 hts gL_isBest_L_size rfl rfl rfl (by decide +kernel) ⟨Nat.le_of_ble_eq_true rfl, Nat.le_of_ble_eq_true rfl⟩) ⟨PW.blind, fun U hU hW => ⟨rfl, hg U hU hW⟩⟩ rfl rfl hl.1 rfl (lv_room (Nat.le_of_ble_eq_true rfl)) dL_isBest_79 ⟨Nat.le_of_ble_eq_true rfl, Nat.le_of_ble_eq_true rfl⟩) (fun r14 u H locs hw hP hD hS => ?_)
                  subst hw
                  refine lv_istore (lv' := [(6, .int (f_L_size (v29_5 &&& a2))), (5, .int v29_5), (4, .int v29_4), (0, .ref k0), (1, .int a1), (2, .int a2), (3, .int a3)]) hx hb dL_isBest_82 hl (by decide) rfl (fun ls hl => ?_)
                  refine lv_iload_n hx hb dL_isBest_84 rfl (lv_at hl 6 rfl) ?_
                  refine lv_iload_n hx hb dL_isBest_85 rfl (lv_at hl 5 rfl) ?_
                  refine lv_iand hx hb dL_isBest_86 ?_
                  have hq15 := hp.1
                  replace hp := hp.2
                  refine k_calli (S := Unit) (wc := ([] : va_W)) (wr := (W_A cI k0 kl)) (w1 := fun u => ([] : va_W)) (fun u => (W_A cI k0 kl)) hP hK hD hN hS hA [] [0] rfl rfl (by decide) (by decide) (by decide) [0] (by decide) (fun _ => rfl) (fun hg => va_runS (As := [.int (a3 &&& a2)]) (rest := []) ⟨hx, hb, hml, hown, hts⟩ (c_L_size l D cI _ (a3 &&& a2) hq15) (va_cwS 1 hts gL_isBest_L_size rfl rfl rfl (by decide +kernel) ⟨Nat.le_of_ble_eq_true rfl, Nat.le_of_ble_eq_true rfl⟩) ⟨PW.blind, fun U hU hW => ⟨rfl, hg U hU hW⟩⟩ rfl rfl hl.1 rfl (lv_room (Nat.le_of_ble_eq_true rfl)) dL_isBest_87 ⟨Nat.le_of_ble_eq_true rfl, Nat.le_of_ble_eq_true rfl⟩) (fun r15 u H locs hw hP hD hS => ?_)
                  subst hw
                  refine lv_istore (lv' := [(7, .int (f_L_size (a3 &&& a2))), (6, .int (f_L_size (v29_5 &&& a2))), (5, .int v29_5), (4, .int v29_4), (0, .ref k0), (1, .int a1), (2, .int a2), (3, .int a3)]) hx hb dL_isBest_90 hl (by decide) rfl (fun ls hl => ?_)
                  refine lv_iconst (v := 0) hx hb dL_isBest_92 (by decide) ?_
                  refine lv_istore (lv' := [(8, .int 0), (7, .int (f_L_size (a3 &&& a2))), (6, .int (f_L_size (v29_5 &&& a2))), (5, .int v29_5), (4, .int v29_4), (0, .ref k0), (1, .int a1), (2, .int a2), (3, .int a3)]) hx hb dL_isBest_93 hl (by decide) rfl (fun ls hl => ?_)
                  refine lv_bipush (v := 13) hx hb dL_isBest_95 (by decide) ?_
                  refine lv_istore (lv' := [(9, .int 13), (8, .int 0), (7, .int (f_L_size (a3 &&& a2))), (6, .int (f_L_size (v29_5 &&& a2))), (5, .int v29_5), (4, .int v29_4), (0, .ref k0), (1, .int a1), (2, .int a2), (3, .int a3)]) hx hb dL_isBest_97 hl (by decide) rfl (fun ls hl => ?_)
                  obtain ⟨⟨r16_v99_8, r16_v99_9⟩, hL16⟩ : ∃ z, z = f_L_isBest_L99 a3 v29_5 15 (0 : Int32) (13 : Int32) := ⟨_, rfl⟩
                  rw [← hL16] at he
                  try dsimp only at he
                  have hpL16 := hp.1
                  replace hp := hp.2 _ _ hL16.symm
                  have kont16 : ∀ (x16_v99_8 : Int32) (x16_v99_9 : Int32), (r16_v99_8, r16_v99_9) = (x16_v99_8, x16_v99_9) → ∀ (H : Heap) (locs : List Loc), va_P D vwCl (W_A cI k0 kl) H → va_D A (W_A cI k0 kl) → va_S A s.heap H locs → ∀ ls : Array Slot, lv_has ls 10 [(8, .int x16_v99_8), (7, .int (f_L_size (a3 &&& a2))), (6, .int (f_L_size (v29_5 &&& a2))), (5, .int v29_5), (0, .ref k0), (1, .int a1), (2, .int a2), (3, .int a3)] → W p l e (headSpec wsL_isBest rm_L_isBest).room s m ([.ref k0, .int a1, .int a2, .int a3] : List Value).toArray below meth c H locs 0 0 (MQ below (Q_L_isBest D cI k0 kl a1 a2 a3 A) ([.ref k0, .int a1, .int a2, .int a3] : List Value).toArray s 0 0 A) (F0 m 135 ls []) := by
                    intro x16_v99_8 x16_v99_9 hxe H locs hP hD hS ls hl
                    simp only [Prod.mk.injEq] at hxe
                    obtain ⟨rfl, rfl⟩ := hxe
                    refine lv_iload hx hb dL_isBest_135 (lv_at hl 3 rfl) ?_
                    have hq20 := hp.1
                    replace hp := hp.2
                    refine k_calli (S := Unit) (wc := ([] : va_W)) (wr := (W_A cI k0 kl)) (w1 := fun u => ([] : va_W)) (fun u => (W_A cI k0 kl)) hP hK hD hN hS hA [] [0] rfl rfl (by decide) (by decide) (by decide) [0] (by decide) (fun _ => rfl) (fun hg => va_runS (As := [.int v29_5]) (rest := []) ⟨hx, hb, hml, hown, hts⟩ (c_L_size l D cI _ v29_5 hq20) (va_cwS 1 hts gL_isBest_L_size rfl rfl rfl (by decide +kernel) ⟨Nat.le_of_ble_eq_true rfl, Nat.le_of_ble_eq_true rfl⟩) ⟨PW.blind, fun U hU hW => ⟨rfl, hg U hU hW⟩⟩ rfl rfl hl.1 rfl (lv_room (Nat.le_of_ble_eq_true rfl)) dL_isBest_137 ⟨Nat.le_of_ble_eq_true rfl, Nat.le_of_ble_eq_true rfl⟩) (fun r20 u H locs hw hP hD hS => ?_)
                    subst hw
                    refine lv_iload_n hx hb dL_isBest_140 rfl (lv_at hl 7 rfl) ?_
                    have hq21 := hp.1
                    replace hp := hp.2
                    refine k_calli (S := Unit) (wc := ([] : va_W)) (wr := (W_A cI k0 kl)) (w1 := fun u => ([] : va_W)) (fun u => (W_A cI k0 kl)) hP hK hD hN hS hA [] [0] rfl rfl (by decide) (by decide) (by decide) [0] (by decide) (fun _ => rfl) (fun hg => va_runS (As := [.int a3]) (rest := [.int (f_L_size v29_5)]) ⟨hx, hb, hml, hown, hts⟩ (c_L_size l D cI _ a3 hq21) (va_cwS 1 hts gL_isBest_L_size rfl rfl rfl (by decide +kernel) ⟨Nat.le_of_ble_eq_true rfl, Nat.le_of_ble_eq_true rfl⟩) ⟨PW.blind, fun U hU hW => ⟨rfl, hg U hU hW⟩⟩ rfl rfl hl.1 rfl (lv_room (Nat.le_of_ble_eq_true rfl)) dL_isBest_141 ⟨Nat.le_of_ble_eq_true rfl, Nat.le_of_ble_eq_true rfl⟩) (fun r21 u H locs hw hP hD hS => ?_)
                    subst hw
                    obtain ⟨j22, hJ22⟩ : ∃ z : Int32, z = (if (f_L_size v29_5) = (f_L_size a3) then (if (f_L_size (v29_5 &&& a2)) < (f_L_size (a3 &&& a2)) then (1 : Int32) else (if (f_L_size (v29_5 &&& a2)) = (f_L_size (a3 &&& a2)) then (if v29_5 = a3 then (1 : Int32) else (if ((a3 >>> (r16_v99_8 &&& 31)) &&& 1) = 1 then (1 : Int32) else (0 : Int32))) else (0 : Int32))) else (0 : Int32)) := ⟨_, rfl⟩
                    rw [← hJ22] at he
                    try dsimp only at he
                    have hpJ22 := hp.1
                    replace hp := hp.2 _  hJ22.symm
                    have kont22 : (j22 = 0 ∨ j22 = 1) → ∀ (H : Heap) (locs : List Loc), va_P D vwCl (W_A cI k0 kl) H → va_D A (W_A cI k0 kl) → va_S A s.heap H locs → ∀ ls : Array Slot, lv_has ls 10 [(5, .int v29_5), (0, .ref k0), (1, .int a1), (2, .int a2), (3, .int a3)] → W p l e (headSpec wsL_isBest rm_L_isBest).room s m ([.ref k0, .int a1, .int a2, .int a3] : List Value).toArray below meth c H locs 0 0 (MQ below (Q_L_isBest D cI k0 kl a1 a2 a3 A) ([.ref k0, .int a1, .int a2, .int a3] : List Value).toArray s 0 0 A) (F0 m 182 ls [.int j22]) := by
                      intro hb22 H locs hP hD hS ls hl
                      refine lv_istore (lv' := [(4, .int j22), (5, .int v29_5), (0, .ref k0), (1, .int a1), (2, .int a2), (3, .int a3)]) hx hb dL_isBest_182 hl (by decide) rfl (fun ls hl => ?_)
                      refine lv_iinc (v := (v29_5 + 1)) (lv' := [(5, .int (v29_5 + 1)), (4, .int j22), (0, .ref k0), (1, .int a1), (2, .int a2), (3, .int a3)]) hx hb dL_isBest_184 hl (k := 1) rfl rfl (by decide) rfl (fun ls hl => ?_)
                      refine lv_goto (tgt := 29) hx hb dL_isBest_187 (by decide) ?_
                      exact ih _ _ hp he _ _ hP hD hS _ (lv_sub hl [0, 1, 2, 3, 4, 5] rfl)
                    replace he := hJ22
                    replace hp := hpJ22
                    refine lv_icmp_ne (tgt := 181) hx hb dL_isBest_144 (by decide) (fun c23 => ?_) (fun c23 => ?_)
                    · replace hp := hp.2 c23
                      replace he := he.trans (if_neg c23)
                      refine lv_iconst (v := 0) hx hb dL_isBest_181 (by decide) ?_
                      subst he
                      exact kont22 (Or.inl rfl) _ _ hP hD hS _ (lv_sub hl [3, 4, 5, 6, 7] rfl)
                    · replace hp := hp.1 c23
                      replace he := he.trans (if_pos c23)
                      refine lv_iload hx hb dL_isBest_147 (lv_at hl 2 rfl) ?_
                      refine lv_iload hx hb dL_isBest_149 (lv_at hl 1 rfl) ?_
                      refine lv_icmp_lt (tgt := 177) hx hb dL_isBest_151 (by decide) (fun c24 => ?_) (fun c24 => ?_)
                      · replace hp := hp.1 c24
                        replace he := he.trans (if_pos c24)
                        refine lv_iconst (v := 1) hx hb dL_isBest_177 (by decide) ?_
                        refine lv_goto (tgt := 182) hx hb dL_isBest_178 (by decide) ?_
                        subst he
                        exact kont22 (Or.inr rfl) _ _ hP hD hS _ (lv_sub hl [3, 4, 5, 6, 7] rfl)
                      · replace hp := hp.2 c24
                        replace he := he.trans (if_neg c24)
                        refine lv_iload hx hb dL_isBest_154 (lv_at hl 2 rfl) ?_
                        refine lv_iload hx hb dL_isBest_156 (lv_at hl 1 rfl) ?_
                        refine lv_icmp_ne (tgt := 181) hx hb dL_isBest_158 (by decide) (fun c25 => ?_) (fun c25 => ?_)
                        · replace hp := hp.2 c25
                          replace he := he.trans (if_neg c25)
                          refine lv_iconst (v := 0) hx hb dL_isBest_181 (by decide) ?_
                          subst he
                          exact kont22 (Or.inl rfl) _ _ hP hD hS _ (lv_sub hl [3, 4, 5, 6, 7] rfl)
                        · replace hp := hp.1 c25
                          replace he := he.trans (if_pos c25)
                          refine lv_iload hx hb dL_isBest_161 (lv_at hl 3 rfl) ?_
                          refine lv_iload_n hx hb dL_isBest_163 rfl (lv_at hl 7 rfl) ?_
                          refine lv_icmp_eq (tgt := 177) hx hb dL_isBest_164 (by decide) (fun c26 => ?_) (fun c26 => ?_)
                          · replace hp := hp.1 c26
                            replace he := he.trans (if_pos c26)
                            refine lv_iconst (v := 1) hx hb dL_isBest_177 (by decide) ?_
                            refine lv_goto (tgt := 182) hx hb dL_isBest_178 (by decide) ?_
                            subst he
                            exact kont22 (Or.inr rfl) _ _ hP hD hS _ (lv_sub hl [3, 4, 5, 6, 7] rfl)
                          · replace hp := hp.2 c26
                            replace he := he.trans (if_neg c26)
                            refine lv_iload_n hx hb dL_isBest_167 rfl (lv_at hl 7 rfl) ?_
                            refine lv_iload hx hb dL_isBest_168 (lv_at hl 0 rfl) ?_
                            refine lv_ishr hx hb dL_isBest_170 ?_
                            refine lv_iconst (v := 1) hx hb dL_isBest_171 (by decide) ?_
                            refine lv_iand hx hb dL_isBest_172 ?_
                            refine lv_iconst (v := 1) hx hb dL_isBest_173 (by decide) ?_
                            refine lv_icmp_ne (tgt := 181) hx hb dL_isBest_174 (by decide) (fun c27 => ?_) (fun c27 => ?_)
                            · replace hp := hp.2 c27
                              replace he := he.trans (if_neg c27)
                              refine lv_iconst (v := 0) hx hb dL_isBest_181 (by decide) ?_
                              subst he
                              exact kont22 (Or.inl rfl) _ _ hP hD hS _ (lv_sub hl [3, 4, 5, 6, 7] rfl)
                            · replace hp := hp.1 c27
                              replace he := he.trans (if_pos c27)
                              refine lv_iconst (v := 1) hx hb dL_isBest_177 (by decide) ?_
                              refine lv_goto (tgt := 182) hx hb dL_isBest_178 (by decide) ?_
                              subst he
                              exact kont22 (Or.inr rfl) _ _ hP hD hS _ (lv_sub hl [3, 4, 5, 6, 7] rfl)
                  have loop16 : ∀ (n : Nat) (v99_8 : Int32) (v99_9 : Int32), p_L_isBest_L99 a3 v29_5 n v99_8 v99_9 → (r16_v99_8, r16_v99_9) = f_L_isBest_L99 a3 v29_5 n v99_8 v99_9 → ∀ (H : Heap) (locs : List Loc), va_P D vwCl (W_A cI k0 kl) H → va_D A (W_A cI k0 kl) → va_S A s.heap H locs → ∀ ls : Array Slot, lv_has ls 10 [(9, .int v99_9), (8, .int v99_8), (7, .int (f_L_size (a3 &&& a2))), (6, .int (f_L_size (v29_5 &&& a2))), (5, .int v29_5), (0, .ref k0), (1, .int a1), (2, .int a2), (3, .int a3)] → W p l e (headSpec wsL_isBest rm_L_isBest).room s m ([.ref k0, .int a1, .int a2, .int a3] : List Value).toArray below meth c H locs 0 0 (MQ below (Q_L_isBest D cI k0 kl a1 a2 a3 A) ([.ref k0, .int a1, .int a2, .int a3] : List Value).toArray s 0 0 A) (F0 m 99 ls []) := by
                    intro n
                    induction n with
                    | zero => exact fun _ _ hp => hp.elim
                    | succ n ih =>
                      intro v99_8 v99_9 hp he H locs hP hD hS ls hl
                      replace hp := Eq.mp (p_L_isBest_L99.eq_2 ..) hp
                      replace he := he.trans (f_L_isBest_L99.eq_2 ..)
                      refine lv_iload hx hb dL_isBest_99 (lv_at hl 0 rfl) ?_
                      refine lv_if_lt (tgt := 135) hx hb dL_isBest_101 (by decide) (fun c17 => ?_) (fun c17 => ?_)
                      · replace hp := hp.1 c17
                        replace he := he.trans (if_pos c17)
                        exact kont16 _ _ he _ _ hP hD hS _ (lv_sub hl [1, 2, 3, 4, 5, 6, 7, 8] rfl)
                      · replace hp := hp.2 c17
                        replace he := he.trans (if_neg c17)
                        refine lv_iload hx hb dL_isBest_104 (lv_at hl 4 rfl) ?_
                        refine lv_iload hx hb dL_isBest_106 (lv_at hl 0 rfl) ?_
                        refine lv_ishr hx hb dL_isBest_108 ?_
                        refine lv_iconst (v := 1) hx hb dL_isBest_109 (by decide) ?_
                        refine lv_iand hx hb dL_isBest_110 ?_
                        refine lv_iload_n hx hb dL_isBest_111 rfl (lv_at hl 8 rfl) ?_
                        refine lv_iload hx hb dL_isBest_112 (lv_at hl 0 rfl) ?_
                        refine lv_ishr hx hb dL_isBest_114 ?_
                        refine lv_iconst (v := 1) hx hb dL_isBest_115 (by decide) ?_
                        refine lv_iand hx hb dL_isBest_116 ?_
                        obtain ⟨j18, hJ18⟩ : ∃ z : Int32, z = (if ((v29_5 >>> (v99_9 &&& 31)) &&& 1) = ((a3 >>> (v99_9 &&& 31)) &&& 1) then v99_8 else v99_9) := ⟨_, rfl⟩
                        rw [← hJ18] at he
                        try dsimp only at he
                        have hpJ18 := hp.1
                        replace hp := hp.2 _  hJ18.symm
                        have kont18 : ∀ (H : Heap) (locs : List Loc), va_P D vwCl (W_A cI k0 kl) H → va_D A (W_A cI k0 kl) → va_S A s.heap H locs → ∀ ls : Array Slot, lv_has ls 10 [(9, .int v99_9), (7, .int (f_L_size (a3 &&& a2))), (6, .int (f_L_size (v29_5 &&& a2))), (5, .int v29_5), (0, .ref k0), (1, .int a1), (2, .int a2), (3, .int a3)] → W p l e (headSpec wsL_isBest rm_L_isBest).room s m ([.ref k0, .int a1, .int a2, .int a3] : List Value).toArray below meth c H locs 0 0 (MQ below (Q_L_isBest D cI k0 kl a1 a2 a3 A) ([.ref k0, .int a1, .int a2, .int a3] : List Value).toArray s 0 0 A) (F0 m 127 ls [.int j18]) := by
                          intro H locs hP hD hS ls hl
                          refine lv_istore (lv' := [(8, .int j18), (9, .int v99_9), (7, .int (f_L_size (a3 &&& a2))), (6, .int (f_L_size (v29_5 &&& a2))), (5, .int v29_5), (0, .ref k0), (1, .int a1), (2, .int a2), (3, .int a3)]) hx hb dL_isBest_127 hl (by decide) rfl (fun ls hl => ?_)
                          refine lv_iinc (v := (v99_9 + (-1))) (lv' := [(9, .int (v99_9 + (-1))), (8, .int j18), (7, .int (f_L_size (a3 &&& a2))), (6, .int (f_L_size (v29_5 &&& a2))), (5, .int v29_5), (0, .ref k0), (1, .int a1), (2, .int a2), (3, .int a3)]) hx hb dL_isBest_129 hl (k := 1) rfl rfl (by decide) rfl (fun ls hl => ?_)
                          refine lv_goto (tgt := 99) hx hb dL_isBest_132 (by decide) ?_
                          exact ih _ _ hp he _ _ hP hD hS _ (lv_sub hl [0, 1, 2, 3, 4, 5, 6, 7, 8] rfl)
                        replace he := hJ18
                        replace hp := hpJ18
                        refine lv_icmp_eq (tgt := 125) hx hb dL_isBest_117 (by decide) (fun c19 => ?_) (fun c19 => ?_)
                        · replace hp := hp.1 c19
                          replace he := he.trans (if_pos c19)
                          refine lv_iload hx hb dL_isBest_125 (lv_at hl 1 rfl) ?_
                          subst he
                          exact kont18 _ _ hP hD hS _ (lv_sub hl [0, 2, 3, 4, 5, 6, 7, 8] rfl)
                        · replace hp := hp.2 c19
                          replace he := he.trans (if_neg c19)
                          refine lv_iload hx hb dL_isBest_120 (lv_at hl 0 rfl) ?_
                          refine lv_goto (tgt := 127) hx hb dL_isBest_122 (by decide) ?_
                          subst he
                          exact kont18 _ _ hP hD hS _ (lv_sub hl [0, 2, 3, 4, 5, 6, 7, 8] rfl)
                  exact loop16 15 (0 : Int32) (13 : Int32) hpL16 hL16 _ _ hP hD hS _ (lv_sub hl [0, 1, 2, 3, 4, 6, 7, 8, 9] rfl)
    exact loop5 16385 j1 (0 : Int32) hpL5 hL5 _ _ hP hD hS _ (lv_sub hl [0, 1, 2, 3, 4, 5] rfl)
  replace he := hJ1
  replace hp := hpJ1
  refine lv_if_ne (tgt := 23) hx hb dL_isBest_5 (by decide) (fun c2 => ?_) (fun c2 => ?_)
  · replace hp := hp.2 c2
    replace he := he.trans (if_neg c2)
    refine lv_iconst (v := 0) hx hb dL_isBest_23 (by decide) ?_
    subst he
    exact kont1 (Or.inl rfl) _ _ hP hD hS _ (lv_sub hl [0, 1, 2, 3] rfl)
  · replace hp := hp.1 c2
    replace he := he.trans (if_pos c2)
    refine lv_aload_n hx hb dL_isBest_8 rfl (lv_at hl 0 rfl) ?_
    refine lv_iload_n hx hb dL_isBest_9 rfl (lv_at hl 3 rfl) ?_
    have hq3 := hp.1
    replace hp := hp.2
    refine k_calli (S := Unit) (wc := (W_A cI k0 kl)) (wr := ([] : va_W)) (w1 := fun u => (W_A cI k0 kl)) (fun u => (W_A cI k0 kl)) hP hK hD hN hS hA [0] [] rfl rfl (by decide) (by decide) (by decide) [0] (by decide) (fun _ => rfl) (fun hg => va_runS (As := [.ref k0, .int a3]) (rest := []) ⟨hx, hb, hml, hown, hts⟩ (c_L_all l D cI k0 kl _ a3 hq3) (va_cwS 2 hts gL_isBest_L_all rfl rfl rfl (by decide +kernel) ⟨Nat.le_of_ble_eq_true rfl, Nat.le_of_ble_eq_true rfl⟩) ⟨PW.blind, fun U hU hW => ⟨rfl, hg U hU hW⟩⟩ rfl rfl hl.1 rfl (lv_room (Nat.le_of_ble_eq_true rfl)) dL_isBest_10 ⟨Nat.le_of_ble_eq_true rfl, Nat.le_of_ble_eq_true rfl⟩) (fun r3 u H locs hw hP hD hS => ?_)
    subst hw
    refine lv_iload_n hx hb dL_isBest_13 rfl (lv_at hl 2 rfl) ?_
    refine lv_iand hx hb dL_isBest_14 ?_
    refine lv_iload_n hx hb dL_isBest_15 rfl (lv_at hl 2 rfl) ?_
    refine lv_icmp_ne (tgt := 23) hx hb dL_isBest_16 (by decide) (fun c4 => ?_) (fun c4 => ?_)
    · replace hp := hp.2 c4
      replace he := he.trans (if_neg c4)
      refine lv_iconst (v := 0) hx hb dL_isBest_23 (by decide) ?_
      subst he
      exact kont1 (Or.inl rfl) _ _ hP hD hS _ (lv_sub hl [0, 1, 2, 3] rfl)
    · replace hp := hp.1 c4
      replace he := he.trans (if_pos c4)
      refine lv_iconst (v := 1) hx hb dL_isBest_19 (by decide) ?_
      refine lv_goto (tgt := 24) hx hb dL_isBest_20 (by decide) ?_
      subst he
      exact kont1 (Or.inr rfl) _ _ hP hD hS _ (lv_sub hl [0, 1, 2, 3] rfl)
