abbrev rm_L_hangs : Room := { frames := 9, cells := 14865, slots := 89190, locals := 147 }
abbrev Q_L_hangs (D : va_G) (cI : ClassId) (x0 g0 g1 g2 g3 g4 l0 l1 l2 l3 l4 l5 t0 t1 t2 : Nat) (xr : Int32) (xt : Int32) (gn : AA) (gu : AA) (gb : AA) (ga : AA) (lc : Int32) (lk : AA) (ln : AA) (lt : AA) (ll : AA) (lr : AA) (tw : Int32) (tn : AA) (tt : AA) (A : Nat → Prop) : Array Value → State → Outcome → State → Prop := va_Qi (S := Unit) (fun r u => f_L_hangs gn gb = r ∧ (r = 0 ∨ r = 1)) (fun u t => QW D [(cI, .int)] A (W_X4 cI x0 g0 g1 g2 g3 g4 l0 l1 l2 l3 l4 l5 t0 t1 t2 xr xt gn gu gb ga lc lk ln lt ll lr tw tn tt) t) A
set_option maxHeartbeats 60000000 in
set_option maxRecDepth 100000 in
theorem c_L_hangs (l : Launch)  (D : va_G) (cI : ClassId) (x0 g0 g1 g2 g3 g4 l0 l1 l2 l3 l4 l5 t0 t1 t2 : Nat) (xr : Int32) (xt : Int32) (gn : AA) (gu : AA) (gb : AA) (ga : AA) (lc : Int32) (lk : AA) (ln : AA) (lt : AA) (ll : AA) (lr : AA) (tw : Int32) (tn : AA) (tt : AA) (sz : Nat) (hp : p_L_hangs gn gb) (hst : l.stackTraces = false) : Met l yL_hangs wsL_hangs rm_L_hangs (va_Pc [.ref x0] (PX D [(cI, .int)] sz (W_X4 cI x0 g0 g1 g2 g3 g4 l0 l1 l2 l3 l4 l5 t0 t1 t2 xr xt gn gu gb ga lc lk ln lt ll lr tw tn tt))) (Q_L_hangs D cI x0 g0 g1 g2 g3 g4 l0 l1 l2 l3 l4 l5 t0 t1 t2 xr xt gn gu gb ga lc lk ln lt ll lr tw tn tt (va_A (W_X4 cI x0 g0 g1 g2 g3 g4 l0 l1 l2 l3 l4 l5 t0 t1 t2 xr xt gn gu gb ga lc lk ln lt ll lr tw tn tt) sz)) 14865 89190 (va_A (W_X4 cI x0 g0 g1 g2 g3 g4 l0 l1 l2 l3 l4 l5 t0 t1 t2 xr xt gn gu gb ga lc lk ln lt ll lr tw tn tt) sz) := by
  refine Met.ofW (cc := cL_hangs) (maxL := 7) (ret := (some .boolean)) (by decide) rfl ?_
  intro p e s m args below meth c s₁ B hml hv
  obtain ⟨rfl, ⟨hsz, hP, hK, hD0, hN⟩, hXB⟩ := hv
  have hx := B.exec
  have hb := B.bytes
  have hr := B.returns
  have hts := atoms_spec (ws := wsL_hangs) B.pre
  have hown : s.vm.findClass RL = some m.cls := findClass_of_methodNamed B.named
  have hlocks := B.notSynchronized
  subst hsz
  have hD := hD0.self (sz := s.heap.size)
  generalize hAe : va_A (W_X4 cI x0 g0 g1 g2 g3 g4 l0 l1 l2 l3 l4 l5 t0 t1 t2 xr xt gn gu gb ga lc lk ln lt ll lr tw tn tt) s.heap.size = A at hD hXB ⊢
  have hA : ∀ q : Nat, s.heap.size ≤ q → A q := fun q h => by rw [← hAe]; exact Or.inr h
  have hS : va_S A s.heap s.heap [] := va_S.rf
  have hl := lv_entry ([.ref x0]) (n := 7) (Nat.le_of_ble_eq_true rfl)
  rw [lg_entry_eq]
  generalize (lg_sl ([.ref x0]) ++ List.replicate (7 - (lg_sl ([.ref x0])).length) Slot.unset).toArray = ls at hl ⊢
  have hl : lv_has ls 7 [(0, .ref x0)] := hl
  have he := f_L_hangs.eq_1 gn gb
  replace hp := Eq.mp (p_L_hangs.eq_1 ..) hp
  refine lv_iconst (v := 1) hx hb dL_hangs_0 (by decide) ?_
  refine lv_istore_n (lv' := [(1, .int 1), (0, .ref x0)]) hx hb dL_hangs_1 rfl hl (by decide) rfl (fun ls hl => ?_)
  refine lv_iconst (v := 0) hx hb dL_hangs_2 (by decide) ?_
  refine lv_istore_n (lv' := [(2, .int 0), (1, .int 1), (0, .ref x0)]) hx hb dL_hangs_3 rfl hl (by decide) rfl (fun ls hl => ?_)
  obtain ⟨⟨r1_v4_1, r1_v4_2⟩, hL1⟩ : ∃ z, z = f_L_hangs_L4 gn gb 15 (1 : Int32) (0 : Int32) := ⟨_, rfl⟩
  rw [← hL1] at he
  try dsimp only at he
  have hpL1 := hp.1
  replace hp := hp.2 _ _ hL1.symm
  have kont1 : ∀ (x1_v4_1 : Int32) (x1_v4_2 : Int32), (r1_v4_1, r1_v4_2) = (x1_v4_1, x1_v4_2) → ∀ (H : Heap) (locs : List Loc), va_P D vwCl (W_X4 cI x0 g0 g1 g2 g3 g4 l0 l1 l2 l3 l4 l5 t0 t1 t2 xr xt gn gu gb ga lc lk ln lt ll lr tw tn tt) H → va_D A (W_X4 cI x0 g0 g1 g2 g3 g4 l0 l1 l2 l3 l4 l5 t0 t1 t2 xr xt gn gu gb ga lc lk ln lt ll lr tw tn tt) → va_S A s.heap H locs → ∀ ls : Array Slot, lv_has ls 7 [(1, .int x1_v4_1)] → W p l e (headSpec wsL_hangs rm_L_hangs).room s m ([.ref x0] : List Value).toArray below meth c H locs 14865 89190 (MQ below (Q_L_hangs D cI x0 g0 g1 g2 g3 g4 l0 l1 l2 l3 l4 l5 t0 t1 t2 xr xt gn gu gb ga lc lk ln lt ll lr tw tn tt A) ([.ref x0] : List Value).toArray s 14865 89190 A) (F0 m 198 ls []) := by
    intro x1_v4_1 x1_v4_2 hxe H locs hP hD hS ls hl
    simp only [Prod.mk.injEq] at hxe
    obtain ⟨rfl, rfl⟩ := hxe
    refine lv_iload_n hx hb dL_hangs_198 rfl (lv_at hl 0 rfl) ?_
    have hz9 := hp.1
    replace hp := hp.2
    exact W.zret (ty := .boolean) (v := r1_v4_1) hx hb hr (by rcases hz9 with h9 | h9 <;> rw [h9] <;> rfl) (fun t ht hW => ⟨⟨r1_v4_1, (), rfl, ⟨he, hz9⟩, by rw [ht]; exact hP, va_K.moved hW.alike hK, hD⟩, hS.F ht⟩) hS.2.2 dL_hangs_199
  have loop1 : ∀ (n : Nat) (v4_1 : Int32) (v4_2 : Int32), ∀ (kc4 ks4 : Nat), kc4 + n * 991 ≤ 14865 → ks4 + n * 5946 ≤ 89190 → p_L_hangs_L4 gn gb n v4_1 v4_2 → (r1_v4_1, r1_v4_2) = f_L_hangs_L4 gn gb n v4_1 v4_2 → ∀ (H : Heap) (locs : List Loc), va_P D vwCl (W_X4 cI x0 g0 g1 g2 g3 g4 l0 l1 l2 l3 l4 l5 t0 t1 t2 xr xt gn gu gb ga lc lk ln lt ll lr tw tn tt) H → va_D A (W_X4 cI x0 g0 g1 g2 g3 g4 l0 l1 l2 l3 l4 l5 t0 t1 t2 xr xt gn gu gb ga lc lk ln lt ll lr tw tn tt) → va_S A s.heap H locs → ∀ ls : Array Slot, lv_has ls 7 [(2, .int v4_2), (1, .int v4_1), (0, .ref x0)] → W p l e (headSpec wsL_hangs rm_L_hangs).room s m ([.ref x0] : List Value).toArray below meth c H locs kc4 ks4 (MQ below (Q_L_hangs D cI x0 g0 g1 g2 g3 g4 l0 l1 l2 l3 l4 l5 t0 t1 t2 xr xt gn gu gb ga lc lk ln lt ll lr tw tn tt A) ([.ref x0] : List Value).toArray s 14865 89190 A) (F0 m 4 ls []) := by
    intro n
    induction n with
    | zero => exact fun _ _ _ _ _ _ hp => hp.elim
    | succ n ih =>
      intro v4_1 v4_2 kc4 ks4 hkc4 hks4 hp he H locs hP hD hS ls hl
      replace hp := Eq.mp (p_L_hangs_L4.eq_2 ..) hp
      replace he := he.trans (f_L_hangs_L4.eq_2 ..)
      refine lv_iload_n hx hb dL_hangs_4 rfl (lv_at hl 0 rfl) ?_
      refine lv_bipush (v := 14) hx hb dL_hangs_5 (by decide) ?_
      refine lv_icmp_ge (tgt := 198) hx hb dL_hangs_7 (by decide) (fun c2 => ?_) (fun c2 => ?_)
      · replace hp := hp.1 c2
        replace he := he.trans (if_pos c2)
        refine W.widen (k := 14865) (n := 89190) (by omega) (by omega) ?_
        exact kont1 _ _ he _ _ hP hD hS _ (lv_sub hl [1] rfl)
      · replace hp := hp.2 c2
        replace he := he.trans (if_neg c2)
        refine lv_iload_n hx hb dL_hangs_10 rfl (lv_at hl 1 rfl) ?_
        refine lv_if_eq (tgt := 198) hx hb dL_hangs_11 (by decide) (fun c3 => ?_) (fun c3 => ?_)
        · replace hp := hp.1 c3
          replace he := he.trans (if_pos c3)
          refine W.widen (k := 14865) (n := 89190) (by omega) (by omega) ?_
          exact kont1 _ _ he _ _ hP hD hS _ (lv_sub hl [1] rfl)
        · replace hp := hp.2 c3
          replace he := he.trans (if_neg c3)
          refine lv_iconst (v := 0) hx hb dL_hangs_14 (by decide) ?_
          refine lv_istore_n (lv' := [(3, .int 0), (2, .int v4_2), (1, .int v4_1), (0, .ref x0)]) hx hb dL_hangs_15 rfl hl (by decide) rfl (fun ls hl => ?_)
          refine lv_iconst (v := 0) hx hb dL_hangs_16 (by decide) ?_
          refine lv_istore (lv' := [(4, .int 0), (3, .int 0), (2, .int v4_2), (1, .int v4_1), (0, .ref x0)]) hx hb dL_hangs_17 hl (by decide) rfl (fun ls hl => ?_)
          obtain ⟨⟨r4_v19_1, r4_v19_3, r4_v19_4⟩, hL4⟩ : ∃ z, z = f_L_hangs_L19 gn gb v4_2 15 v4_1 (0 : Int32) (0 : Int32) := ⟨_, rfl⟩
          rw [← hL4] at he
          try dsimp only at he
          have hpL4 := hp.1
          replace hp := hp.2 _ _ _ hL4.symm
          have kont4 : ∀ (x4_v19_1 : Int32) (x4_v19_3 : Int32) (x4_v19_4 : Int32), (r4_v19_1, r4_v19_3, r4_v19_4) = (x4_v19_1, x4_v19_3, x4_v19_4) → ∀ (H : Heap) (locs : List Loc), va_P D vwCl (W_X4 cI x0 g0 g1 g2 g3 g4 l0 l1 l2 l3 l4 l5 t0 t1 t2 xr xt gn gu gb ga lc lk ln lt ll lr tw tn tt) H → va_D A (W_X4 cI x0 g0 g1 g2 g3 g4 l0 l1 l2 l3 l4 l5 t0 t1 t2 xr xt gn gu gb ga lc lk ln lt ll lr tw tn tt) → va_S A s.heap H locs → ∀ ls : Array Slot, lv_has ls 7 [(3, .int x4_v19_3), (2, .int v4_2), (1, .int x4_v19_1), (0, .ref x0)] → W p l e (headSpec wsL_hangs rm_L_hangs).room s m ([.ref x0] : List Value).toArray below meth c H locs (kc4 + 990) (ks4 + 5940) (MQ below (Q_L_hangs D cI x0 g0 g1 g2 g3 g4 l0 l1 l2 l3 l4 l5 t0 t1 t2 xr xt gn gu gb ga lc lk ln lt ll lr tw tn tt A) ([.ref x0] : List Value).toArray s 14865 89190 A) (F0 m 173 ls []) := by
            intro x4_v19_1 x4_v19_3 x4_v19_4 hxe H locs hP hD hS ls hl
            simp only [Prod.mk.injEq] at hxe
            obtain ⟨rfl, rfl, rfl⟩ := hxe
            refine lv_iload_n hx hb dL_hangs_173 rfl (lv_at hl 2 rfl) ?_
            obtain ⟨j30, hJ30⟩ : ∃ z : Int32, z = (if r4_v19_1 = 0 then (0 : Int32) else (if (f_L_height gn v4_2) = r4_v19_3 then (1 : Int32) else (0 : Int32))) := ⟨_, rfl⟩
            rw [← hJ30] at he
            try dsimp only at he
            have hpJ30 := hp.1
            replace hp := hp.2 _  hJ30.symm
            have kont30 : (j30 = 0 ∨ j30 = 1) → ∀ (H : Heap) (locs : List Loc), va_P D vwCl (W_X4 cI x0 g0 g1 g2 g3 g4 l0 l1 l2 l3 l4 l5 t0 t1 t2 xr xt gn gu gb ga lc lk ln lt ll lr tw tn tt) H → va_D A (W_X4 cI x0 g0 g1 g2 g3 g4 l0 l1 l2 l3 l4 l5 t0 t1 t2 xr xt gn gu gb ga lc lk ln lt ll lr tw tn tt) → va_S A s.heap H locs → ∀ ls : Array Slot, lv_has ls 7 [(2, .int v4_2), (0, .ref x0)] → W p l e (headSpec wsL_hangs rm_L_hangs).room s m ([.ref x0] : List Value).toArray below meth c H locs (kc4 + 991) (ks4 + 5946) (MQ below (Q_L_hangs D cI x0 g0 g1 g2 g3 g4 l0 l1 l2 l3 l4 l5 t0 t1 t2 xr xt gn gu gb ga lc lk ln lt ll lr tw tn tt A) ([.ref x0] : List Value).toArray s 14865 89190 A) (F0 m 191 ls [.int j30]) := by
              intro hb30 H locs hP hD hS ls hl
              refine lv_istore_n (lv' := [(1, .int j30), (2, .int v4_2), (0, .ref x0)]) hx hb dL_hangs_191 rfl hl (by decide) rfl (fun ls hl => ?_)
              refine lv_iinc (v := (v4_2 + 1)) (lv' := [(2, .int (v4_2 + 1)), (1, .int j30), (0, .ref x0)]) hx hb dL_hangs_192 hl (k := 1) rfl rfl (by decide) rfl (fun ls hl => ?_)
              refine lv_goto (tgt := 4) hx hb dL_hangs_195 (by decide) ?_
              refine W.widen (k := kc4 + 991) (n := ks4 + 5946) (by omega) (by omega) ?_
              exact ih _ _ (kc4 + 991) (ks4 + 5946) (by omega) (by omega) hp he _ _ hP hD hS _ (lv_sub hl [0, 1, 2] rfl)
            replace he := hJ30
            replace hp := hpJ30
            refine lv_if_eq (tgt := 190) hx hb dL_hangs_174 (by decide) (fun c31 => ?_) (fun c31 => ?_)
            · replace hp := hp.1 c31
              replace he := he.trans (if_pos c31)
              refine lv_iconst (v := 0) hx hb dL_hangs_190 (by decide) ?_
              subst he
              refine W.widen (k := (kc4 + 991)) (n := (ks4 + 5946)) (by omega) (by omega) ?_
              exact kont30 (Or.inl rfl) _ _ hP hD hS _ (lv_sub hl [1, 3] rfl)
            · replace hp := hp.2 c31
              replace he := he.trans (if_neg c31)
              refine lv_aload_n hx hb dL_hangs_177 rfl (lv_at hl 3 rfl) ?_
              refine lv_iload_n hx hb dL_hangs_178 rfl (lv_at hl 1 rfl) ?_
              have hq32 := hp.1
              replace hp := hp.2
              refine k_ycalli (S := Unit) (wc := (W_X4 cI x0 g0 g1 g2 g3 g4 l0 l1 l2 l3 l4 l5 t0 t1 t2 xr xt gn gu gb ga lc lk ln lt ll lr tw tn tt)) (wr := ([] : va_W)) (w1 := fun u => (W_X4 cI x0 g0 g1 g2 g3 g4 l0 l1 l2 l3 l4 l5 t0 t1 t2 xr xt gn gu gb ga lc lk ln lt ll lr tw tn tt)) (fun u => (W_X4 cI x0 g0 g1 g2 g3 g4 l0 l1 l2 l3 l4 l5 t0 t1 t2 xr xt gn gu gb ga lc lk ln lt ll lr tw tn tt)) hP hK hD hN hXB hS hA [0, 1, 2, 3, 4, 5, 6, 7, 8, 9, 10, 11, 12, 13, 14] [] rfl rfl (by decide) (by decide) (by decide) [0, 1, 2, 3, 4, 5, 6, 7, 8, 9, 10, 11, 12, 13, 14] (by decide) (fun _ => rfl) (fun hg => vx_runSW (As := [.ref x0, .int v4_2]) (rest := []) ⟨hx, hb, hml, hown, hts⟩ (c_L_height l D cI x0 g0 g1 g2 g3 g4 l0 l1 l2 l3 l4 l5 t0 t1 t2 xr xt gn gu gb ga lc lk ln lt ll lr tw tn tt _ v4_2 hq32 hst) (vx_cwSW 2 hts gL_hangs_L_height rfl rfl rfl (by decide +kernel) ⟨Nat.le_of_ble_eq_true rfl, Nat.le_of_ble_eq_true rfl⟩) ⟨PX.blind, fun U hU hW => ⟨rfl, hg U hU hW⟩⟩ rfl rfl hl.1 rfl (lv_room (Nat.le_of_ble_eq_true rfl)) dL_hangs_179 ⟨(by show (kc4 + 990) + 1 ≤ 14865; omega), (by show (ks4 + 5940) + 6 ≤ 89190; omega)⟩) (fun r32 u H locs hw hP hD hS => ?_)
              subst hw
              refine lv_iload_n hx hb dL_hangs_182 rfl (lv_at hl 0 rfl) ?_
              refine lv_icmp_ne (tgt := 190) hx hb dL_hangs_183 (by decide) (fun c33 => ?_) (fun c33 => ?_)
              · replace hp := hp.2 c33
                replace he := he.trans (if_neg c33)
                refine lv_iconst (v := 0) hx hb dL_hangs_190 (by decide) ?_
                subst he
                exact kont30 (Or.inl rfl) _ _ hP hD hS _ (lv_sub hl [1, 3] rfl)
              · replace hp := hp.1 c33
                replace he := he.trans (if_pos c33)
                refine lv_iconst (v := 1) hx hb dL_hangs_186 (by decide) ?_
                refine lv_goto (tgt := 191) hx hb dL_hangs_187 (by decide) ?_
                subst he
                exact kont30 (Or.inr rfl) _ _ hP hD hS _ (lv_sub hl [1, 3] rfl)
          have loop4 : ∀ (n : Nat) (v19_1 : Int32) (v19_3 : Int32) (v19_4 : Int32), ∀ (kc19 ks19 : Nat), kc19 + n * 66 ≤ (kc4 + 990) → ks19 + n * 396 ≤ (ks4 + 5940) → p_L_hangs_L19 gn gb v4_2 n v19_1 v19_3 v19_4 → (r4_v19_1, r4_v19_3, r4_v19_4) = f_L_hangs_L19 gn gb v4_2 n v19_1 v19_3 v19_4 → ∀ (H : Heap) (locs : List Loc), va_P D vwCl (W_X4 cI x0 g0 g1 g2 g3 g4 l0 l1 l2 l3 l4 l5 t0 t1 t2 xr xt gn gu gb ga lc lk ln lt ll lr tw tn tt) H → va_D A (W_X4 cI x0 g0 g1 g2 g3 g4 l0 l1 l2 l3 l4 l5 t0 t1 t2 xr xt gn gu gb ga lc lk ln lt ll lr tw tn tt) → va_S A s.heap H locs → ∀ ls : Array Slot, lv_has ls 7 [(4, .int v19_4), (3, .int v19_3), (2, .int v4_2), (1, .int v19_1), (0, .ref x0)] → W p l e (headSpec wsL_hangs rm_L_hangs).room s m ([.ref x0] : List Value).toArray below meth c H locs kc19 ks19 (MQ below (Q_L_hangs D cI x0 g0 g1 g2 g3 g4 l0 l1 l2 l3 l4 l5 t0 t1 t2 xr xt gn gu gb ga lc lk ln lt ll lr tw tn tt A) ([.ref x0] : List Value).toArray s 14865 89190 A) (F0 m 19 ls []) := by
            intro n
            induction n with
            | zero => exact fun _ _ _ _ _ _ _ hp => hp.elim
            | succ n ih =>
              intro v19_1 v19_3 v19_4 kc19 ks19 hkc19 hks19 hp he H locs hP hD hS ls hl
              replace hp := Eq.mp (p_L_hangs_L19.eq_2 ..) hp
              replace he := he.trans (f_L_hangs_L19.eq_2 ..)
              refine lv_iload hx hb dL_hangs_19 (lv_at hl 0 rfl) ?_
              refine lv_bipush (v := 14) hx hb dL_hangs_21 (by decide) ?_
              refine lv_icmp_ge (tgt := 173) hx hb dL_hangs_23 (by decide) (fun c5 => ?_) (fun c5 => ?_)
              · replace hp := hp.1 c5
                replace he := he.trans (if_pos c5)
                refine W.widen (k := (kc4 + 990)) (n := (ks4 + 5940)) (by omega) (by omega) ?_
                exact kont4 _ _ _ he _ _ hP hD hS _ (lv_sub hl [1, 2, 3, 4] rfl)
              · replace hp := hp.2 c5
                replace he := he.trans (if_neg c5)
                refine lv_iload_n hx hb dL_hangs_26 rfl (lv_at hl 3 rfl) ?_
                refine lv_if_eq (tgt := 173) hx hb dL_hangs_27 (by decide) (fun c6 => ?_) (fun c6 => ?_)
                · replace hp := hp.1 c6
                  replace he := he.trans (if_pos c6)
                  refine W.widen (k := (kc4 + 990)) (n := (ks4 + 5940)) (by omega) (by omega) ?_
                  exact kont4 _ _ _ he _ _ hP hD hS _ (lv_sub hl [1, 2, 3, 4] rfl)
                · replace hp := hp.2 c6
                  replace he := he.trans (if_neg c6)
                  refine lv_aload_n hx hb dL_hangs_30 rfl (lv_at hl 4 rfl) ?_
                  refine lv_iload_n hx hb dL_hangs_31 rfl (lv_at hl 2 rfl) ?_
                  refine lv_iload hx hb dL_hangs_32 (lv_at hl 0 rfl) ?_
                  have hq7 := hp.1
                  replace hp := hp.2
                  refine k_ycalli (S := Unit) (wc := (W_X4 cI x0 g0 g1 g2 g3 g4 l0 l1 l2 l3 l4 l5 t0 t1 t2 xr xt gn gu gb ga lc lk ln lt ll lr tw tn tt)) (wr := ([] : va_W)) (w1 := fun u => (W_X4 cI x0 g0 g1 g2 g3 g4 l0 l1 l2 l3 l4 l5 t0 t1 t2 xr xt gn gu gb ga lc lk ln lt ll lr tw tn tt)) (fun u => (W_X4 cI x0 g0 g1 g2 g3 g4 l0 l1 l2 l3 l4 l5 t0 t1 t2 xr xt gn gu gb ga lc lk ln lt ll lr tw tn tt)) hP hK hD hN hXB hS hA [0, 1, 2, 3, 4, 5, 6, 7, 8, 9, 10, 11, 12, 13, 14] [] rfl rfl (by decide) (by decide) (by decide) [0, 1, 2, 3, 4, 5, 6, 7, 8, 9, 10, 11, 12, 13, 14] (by decide) (fun _ => rfl) (fun hg => vx_runSW (As := [.ref x0, .int v4_2, .int v19_4]) (rest := []) ⟨hx, hb, hml, hown, hts⟩ (c_L_needs l D cI x0 g0 g1 g2 g3 g4 l0 l1 l2 l3 l4 l5 t0 t1 t2 xr xt gn gu gb ga lc lk ln lt ll lr tw tn tt _ v4_2 v19_4 hq7 hst) (vx_cwSW 3 hts gL_hangs_L_needs rfl rfl rfl (by decide +kernel) ⟨Nat.le_of_ble_eq_true rfl, Nat.le_of_ble_eq_true rfl⟩) ⟨PX.blind, fun U hU hW => ⟨rfl, hg U hU hW⟩⟩ rfl rfl hl.1 rfl (lv_room (Nat.le_of_ble_eq_true rfl)) dL_hangs_34 ⟨(by show kc19 + 2 ≤ 14865; omega), (by show ks19 + 12 ≤ 89190; omega)⟩) (fun r7 u H locs hw hP hD hS => ?_)
                  subst hw
                  refine lv_iconst (v := 1) hx hb dL_hangs_37 (by decide) ?_
                  obtain ⟨j8, hJ8⟩ : ∃ z : Int32, z = (if (f_L_needs gn v4_2 v19_4) = 1 then (1 : Int32) else (0 : Int32)) := ⟨_, rfl⟩
                  rw [← hJ8] at he
                  try dsimp only at he
                  have hpJ8 := hp.1
                  replace hp := hp.2 _  hJ8.symm
                  have kont8 : (j8 = 0 ∨ j8 = 1) → ∀ (H : Heap) (locs : List Loc), va_P D vwCl (W_X4 cI x0 g0 g1 g2 g3 g4 l0 l1 l2 l3 l4 l5 t0 t1 t2 xr xt gn gu gb ga lc lk ln lt ll lr tw tn tt) H → va_D A (W_X4 cI x0 g0 g1 g2 g3 g4 l0 l1 l2 l3 l4 l5 t0 t1 t2 xr xt gn gu gb ga lc lk ln lt ll lr tw tn tt) → va_S A s.heap H locs → ∀ ls : Array Slot, lv_has ls 7 [(4, .int v19_4), (3, .int v19_3), (2, .int v4_2), (0, .ref x0)] → W p l e (headSpec wsL_hangs rm_L_hangs).room s m ([.ref x0] : List Value).toArray below meth c H locs (kc19 + 2) (ks19 + 12) (MQ below (Q_L_hangs D cI x0 g0 g1 g2 g3 g4 l0 l1 l2 l3 l4 l5 t0 t1 t2 xr xt gn gu gb ga lc lk ln lt ll lr tw tn tt A) ([.ref x0] : List Value).toArray s 14865 89190 A) (F0 m 46 ls [.int j8]) := by
                    intro hb8 H locs hP hD hS ls hl
                    refine lv_istore (lv' := [(5, .int j8), (4, .int v19_4), (3, .int v19_3), (2, .int v4_2), (0, .ref x0)]) hx hb dL_hangs_46 hl (by decide) rfl (fun ls hl => ?_)
                    refine lv_iload hx hb dL_hangs_48 (lv_at hl 0 rfl) ?_
                    obtain ⟨j10, hJ10⟩ : ∃ z : Int32, z = (if j8 = 0 then v19_3 else (if ((f_L_height gn v19_4) + 1) ≤ v19_3 then v19_3 else ((f_L_height gn v19_4) + 1))) := ⟨_, rfl⟩
                    rw [← hJ10] at he
                    try dsimp only at he
                    have hpJ10 := hp.1
                    replace hp := hp.2 _  hJ10.symm
                    have kont10 : ∀ (H : Heap) (locs : List Loc), va_P D vwCl (W_X4 cI x0 g0 g1 g2 g3 g4 l0 l1 l2 l3 l4 l5 t0 t1 t2 xr xt gn gu gb ga lc lk ln lt ll lr tw tn tt) H → va_D A (W_X4 cI x0 g0 g1 g2 g3 g4 l0 l1 l2 l3 l4 l5 t0 t1 t2 xr xt gn gu gb ga lc lk ln lt ll lr tw tn tt) → va_S A s.heap H locs → ∀ ls : Array Slot, lv_has ls 7 [(5, .int j8), (4, .int v19_4), (2, .int v4_2), (0, .ref x0)] → W p l e (headSpec wsL_hangs rm_L_hangs).room s m ([.ref x0] : List Value).toArray below meth c H locs (kc19 + 4) (ks19 + 24) (MQ below (Q_L_hangs D cI x0 g0 g1 g2 g3 g4 l0 l1 l2 l3 l4 l5 t0 t1 t2 xr xt gn gu gb ga lc lk ln lt ll lr tw tn tt A) ([.ref x0] : List Value).toArray s 14865 89190 A) (F0 m 77 ls [.int j10]) := by
                      intro H locs hP hD hS ls hl
                      refine lv_istore_n (lv' := [(3, .int j10), (5, .int j8), (4, .int v19_4), (2, .int v4_2), (0, .ref x0)]) hx hb dL_hangs_77 rfl hl (by decide) rfl (fun ls hl => ?_)
                      refine lv_iconst (v := 0) hx hb dL_hangs_78 (by decide) ?_
                      refine lv_istore (lv' := [(6, .int 0), (3, .int j10), (5, .int j8), (4, .int v19_4), (2, .int v4_2), (0, .ref x0)]) hx hb dL_hangs_79 hl (by decide) rfl (fun ls hl => ?_)
                      obtain ⟨⟨r15_v81_5, r15_v81_6⟩, hL15⟩ : ∃ z, z = f_L_hangs_L81 gn gb v4_2 v19_4 15 j8 (0 : Int32) := ⟨_, rfl⟩
                      rw [← hL15] at he
                      try dsimp only at he
                      have hpL15 := hp.1
                      replace hp := hp.2 _ _ hL15.symm
                      have kont15 : ∀ (x15_v81_5 : Int32) (x15_v81_6 : Int32), (r15_v81_5, r15_v81_6) = (x15_v81_5, x15_v81_6) → ∀ (H : Heap) (locs : List Loc), va_P D vwCl (W_X4 cI x0 g0 g1 g2 g3 g4 l0 l1 l2 l3 l4 l5 t0 t1 t2 xr xt gn gu gb ga lc lk ln lt ll lr tw tn tt) H → va_D A (W_X4 cI x0 g0 g1 g2 g3 g4 l0 l1 l2 l3 l4 l5 t0 t1 t2 xr xt gn gu gb ga lc lk ln lt ll lr tw tn tt) → va_S A s.heap H locs → ∀ ls : Array Slot, lv_has ls 7 [(3, .int j10), (5, .int x15_v81_5), (4, .int v19_4), (2, .int v4_2), (0, .ref x0)] → W p l e (headSpec wsL_hangs rm_L_hangs).room s m ([.ref x0] : List Value).toArray below meth c H locs (kc19 + 64) (ks19 + 384) (MQ below (Q_L_hangs D cI x0 g0 g1 g2 g3 g4 l0 l1 l2 l3 l4 l5 t0 t1 t2 xr xt gn gu gb ga lc lk ln lt ll lr tw tn tt A) ([.ref x0] : List Value).toArray s 14865 89190 A) (F0 m 129 ls []) := by
                        intro x15_v81_5 x15_v81_6 hxe H locs hP hD hS ls hl
                        simp only [Prod.mk.injEq] at hxe
                        obtain ⟨rfl, rfl⟩ := hxe
                        refine lv_aload_n hx hb dL_hangs_129 rfl (lv_at hl 4 rfl) ?_
                        refine lv_iload_n hx hb dL_hangs_130 rfl (lv_at hl 3 rfl) ?_
                        refine lv_iload hx hb dL_hangs_131 (lv_at hl 2 rfl) ?_
                        have hq23 := hp.1
                        replace hp := hp.2
                        refine k_ycalli (S := Unit) (wc := (W_X4 cI x0 g0 g1 g2 g3 g4 l0 l1 l2 l3 l4 l5 t0 t1 t2 xr xt gn gu gb ga lc lk ln lt ll lr tw tn tt)) (wr := ([] : va_W)) (w1 := fun u => (W_X4 cI x0 g0 g1 g2 g3 g4 l0 l1 l2 l3 l4 l5 t0 t1 t2 xr xt gn gu gb ga lc lk ln lt ll lr tw tn tt)) (fun u => (W_X4 cI x0 g0 g1 g2 g3 g4 l0 l1 l2 l3 l4 l5 t0 t1 t2 xr xt gn gu gb ga lc lk ln lt ll lr tw tn tt)) hP hK hD hN hXB hS hA [0, 1, 2, 3, 4, 5, 6, 7, 8, 9, 10, 11, 12, 13, 14] [] rfl rfl (by decide) (by decide) (by decide) [0, 1, 2, 3, 4, 5, 6, 7, 8, 9, 10, 11, 12, 13, 14] (by decide) (fun _ => rfl) (fun hg => vx_runSW (As := [.ref x0, .int v4_2, .int v19_4]) (rest := []) ⟨hx, hb, hml, hown, hts⟩ (c_L_depends l D cI x0 g0 g1 g2 g3 g4 l0 l1 l2 l3 l4 l5 t0 t1 t2 xr xt gn gu gb ga lc lk ln lt ll lr tw tn tt _ v4_2 v19_4 hq23 hst) (vx_cwSW 3 hts gL_hangs_L_depends rfl rfl rfl (by decide +kernel) ⟨Nat.le_of_ble_eq_true rfl, Nat.le_of_ble_eq_true rfl⟩) ⟨PX.blind, fun U hU hW => ⟨rfl, hg U hU hW⟩⟩ rfl rfl hl.1 rfl (lv_room (Nat.le_of_ble_eq_true rfl)) dL_hangs_133 ⟨(by show (kc19 + 64) + 2 ≤ 14865; omega), (by show (ks19 + 384) + 12 ≤ 89190; omega)⟩) (fun r23 u H locs hw hP hD hS => ?_)
                        subst hw
                        refine lv_iconst (v := 1) hx hb dL_hangs_136 (by decide) ?_
                        obtain ⟨j24, hJ24⟩ : ∃ z : Int32, z = (if (f_L_depends gb v4_2 v19_4) = 1 then (1 : Int32) else (0 : Int32)) := ⟨_, rfl⟩
                        rw [← hJ24] at he
                        try dsimp only at he
                        have hpJ24 := hp.1
                        replace hp := hp.2 _  hJ24.symm
                        have kont24 : (j24 = 0 ∨ j24 = 1) → ∀ (H : Heap) (locs : List Loc), va_P D vwCl (W_X4 cI x0 g0 g1 g2 g3 g4 l0 l1 l2 l3 l4 l5 t0 t1 t2 xr xt gn gu gb ga lc lk ln lt ll lr tw tn tt) H → va_D A (W_X4 cI x0 g0 g1 g2 g3 g4 l0 l1 l2 l3 l4 l5 t0 t1 t2 xr xt gn gu gb ga lc lk ln lt ll lr tw tn tt) → va_S A s.heap H locs → ∀ ls : Array Slot, lv_has ls 7 [(3, .int j10), (5, .int r15_v81_5), (4, .int v19_4), (2, .int v4_2), (0, .ref x0)] → W p l e (headSpec wsL_hangs rm_L_hangs).room s m ([.ref x0] : List Value).toArray below meth c H locs (kc19 + 66) (ks19 + 396) (MQ below (Q_L_hangs D cI x0 g0 g1 g2 g3 g4 l0 l1 l2 l3 l4 l5 t0 t1 t2 xr xt gn gu gb ga lc lk ln lt ll lr tw tn tt A) ([.ref x0] : List Value).toArray s 14865 89190 A) (F0 m 145 ls [.int j24]) := by
                          intro hb24 H locs hP hD hS ls hl
                          refine lv_iload hx hb dL_hangs_145 (lv_at hl 1 rfl) ?_
                          obtain ⟨j26, hJ26⟩ : ∃ z : Int32, z = (if j24 = r15_v81_5 then (if v4_2 = v19_4 then (if r15_v81_5 = 0 then (1 : Int32) else (0 : Int32)) else (1 : Int32)) else (0 : Int32)) := ⟨_, rfl⟩
                          rw [← hJ26] at he
                          try dsimp only at he
                          have hpJ26 := hp.1
                          replace hp := hp.2 _  hJ26.symm
                          have kont26 : (j26 = 0 ∨ j26 = 1) → ∀ (H : Heap) (locs : List Loc), va_P D vwCl (W_X4 cI x0 g0 g1 g2 g3 g4 l0 l1 l2 l3 l4 l5 t0 t1 t2 xr xt gn gu gb ga lc lk ln lt ll lr tw tn tt) H → va_D A (W_X4 cI x0 g0 g1 g2 g3 g4 l0 l1 l2 l3 l4 l5 t0 t1 t2 xr xt gn gu gb ga lc lk ln lt ll lr tw tn tt) → va_S A s.heap H locs → ∀ ls : Array Slot, lv_has ls 7 [(3, .int j10), (4, .int v19_4), (2, .int v4_2), (0, .ref x0)] → W p l e (headSpec wsL_hangs rm_L_hangs).room s m ([.ref x0] : List Value).toArray below meth c H locs (kc19 + 66) (ks19 + 396) (MQ below (Q_L_hangs D cI x0 g0 g1 g2 g3 g4 l0 l1 l2 l3 l4 l5 t0 t1 t2 xr xt gn gu gb ga lc lk ln lt ll lr tw tn tt A) ([.ref x0] : List Value).toArray s 14865 89190 A) (F0 m 166 ls [.int j26]) := by
                            intro hb26 H locs hP hD hS ls hl
                            refine lv_istore_n (lv' := [(1, .int j26), (3, .int j10), (4, .int v19_4), (2, .int v4_2), (0, .ref x0)]) hx hb dL_hangs_166 rfl hl (by decide) rfl (fun ls hl => ?_)
                            refine lv_iinc (v := (v19_4 + 1)) (lv' := [(4, .int (v19_4 + 1)), (1, .int j26), (3, .int j10), (2, .int v4_2), (0, .ref x0)]) hx hb dL_hangs_167 hl (k := 2) rfl rfl (by decide) rfl (fun ls hl => ?_)
                            refine lv_goto (tgt := 19) hx hb dL_hangs_170 (by decide) ?_
                            refine W.widen (k := kc19 + 66) (n := ks19 + 396) (by omega) (by omega) ?_
                            exact ih _ _ _ (kc19 + 66) (ks19 + 396) (by omega) (by omega) hp he _ _ hP hD hS _ (lv_sub hl [0, 2, 3, 1, 4] rfl)
                          replace he := hJ26
                          replace hp := hpJ26
                          refine lv_icmp_ne (tgt := 165) hx hb dL_hangs_147 (by decide) (fun c27 => ?_) (fun c27 => ?_)
                          · replace hp := hp.2 c27
                            replace he := he.trans (if_neg c27)
                            refine lv_iconst (v := 0) hx hb dL_hangs_165 (by decide) ?_
                            subst he
                            exact kont26 (Or.inl rfl) _ _ hP hD hS _ (lv_sub hl [0, 2, 3, 4] rfl)
                          · replace hp := hp.1 c27
                            replace he := he.trans (if_pos c27)
                            refine lv_iload_n hx hb dL_hangs_150 rfl (lv_at hl 3 rfl) ?_
                            refine lv_iload hx hb dL_hangs_151 (lv_at hl 2 rfl) ?_
                            refine lv_icmp_ne (tgt := 161) hx hb dL_hangs_153 (by decide) (fun c28 => ?_) (fun c28 => ?_)
                            · replace hp := hp.2 c28
                              replace he := he.trans (if_neg c28)
                              refine lv_iconst (v := 1) hx hb dL_hangs_161 (by decide) ?_
                              refine lv_goto (tgt := 166) hx hb dL_hangs_162 (by decide) ?_
                              subst he
                              exact kont26 (Or.inr rfl) _ _ hP hD hS _ (lv_sub hl [0, 2, 3, 4] rfl)
                            · replace hp := hp.1 c28
                              replace he := he.trans (if_pos c28)
                              refine lv_iload hx hb dL_hangs_156 (lv_at hl 1 rfl) ?_
                              refine lv_if_ne (tgt := 165) hx hb dL_hangs_158 (by decide) (fun c29 => ?_) (fun c29 => ?_)
                              · replace hp := hp.2 c29
                                replace he := he.trans (if_neg c29)
                                refine lv_iconst (v := 0) hx hb dL_hangs_165 (by decide) ?_
                                subst he
                                exact kont26 (Or.inl rfl) _ _ hP hD hS _ (lv_sub hl [0, 2, 3, 4] rfl)
                              · replace hp := hp.1 c29
                                replace he := he.trans (if_pos c29)
                                refine lv_iconst (v := 1) hx hb dL_hangs_161 (by decide) ?_
                                refine lv_goto (tgt := 166) hx hb dL_hangs_162 (by decide) ?_
                                subst he
                                exact kont26 (Or.inr rfl) _ _ hP hD hS _ (lv_sub hl [0, 2, 3, 4] rfl)
                        replace he := hJ24
                        replace hp := hpJ24
                        refine lv_icmp_ne (tgt := 144) hx hb dL_hangs_137 (by decide) (fun c25 => ?_) (fun c25 => ?_)
                        · replace hp := hp.2 c25
                          replace he := he.trans (if_neg c25)
                          refine lv_iconst (v := 0) hx hb dL_hangs_144 (by decide) ?_
                          subst he
                          exact kont24 (Or.inl rfl) _ _ hP hD hS _ (lv_sub hl [0, 1, 2, 3, 4] rfl)
                        · replace hp := hp.1 c25
                          replace he := he.trans (if_pos c25)
                          refine lv_iconst (v := 1) hx hb dL_hangs_140 (by decide) ?_
                          refine lv_goto (tgt := 145) hx hb dL_hangs_141 (by decide) ?_
                          subst he
                          exact kont24 (Or.inr rfl) _ _ hP hD hS _ (lv_sub hl [0, 1, 2, 3, 4] rfl)
                      have loop15 : ∀ (n : Nat) (v81_5 : Int32) (v81_6 : Int32), ∀ (kc81 ks81 : Nat), kc81 + n * 4 ≤ (kc19 + 64) → ks81 + n * 24 ≤ (ks19 + 384) → p_L_hangs_L81 gn gb v4_2 v19_4 n v81_5 v81_6 → (r15_v81_5, r15_v81_6) = f_L_hangs_L81 gn gb v4_2 v19_4 n v81_5 v81_6 → ∀ (H : Heap) (locs : List Loc), va_P D vwCl (W_X4 cI x0 g0 g1 g2 g3 g4 l0 l1 l2 l3 l4 l5 t0 t1 t2 xr xt gn gu gb ga lc lk ln lt ll lr tw tn tt) H → va_D A (W_X4 cI x0 g0 g1 g2 g3 g4 l0 l1 l2 l3 l4 l5 t0 t1 t2 xr xt gn gu gb ga lc lk ln lt ll lr tw tn tt) → va_S A s.heap H locs → ∀ ls : Array Slot, lv_has ls 7 [(6, .int v81_6), (3, .int j10), (5, .int v81_5), (4, .int v19_4), (2, .int v4_2), (0, .ref x0)] → W p l e (headSpec wsL_hangs rm_L_hangs).room s m ([.ref x0] : List Value).toArray below meth c H locs kc81 ks81 (MQ below (Q_L_hangs D cI x0 g0 g1 g2 g3 g4 l0 l1 l2 l3 l4 l5 t0 t1 t2 xr xt gn gu gb ga lc lk ln lt ll lr tw tn tt A) ([.ref x0] : List Value).toArray s 14865 89190 A) (F0 m 81 ls []) := by
                        intro n
                        induction n with
                        | zero => exact fun _ _ _ _ _ _ hp => hp.elim
                        | succ n ih =>
                          intro v81_5 v81_6 kc81 ks81 hkc81 hks81 hp he H locs hP hD hS ls hl
                          replace hp := Eq.mp (p_L_hangs_L81.eq_2 ..) hp
                          replace he := he.trans (f_L_hangs_L81.eq_2 ..)
                          refine lv_iload hx hb dL_hangs_81 (lv_at hl 0 rfl) ?_
                          refine lv_bipush (v := 14) hx hb dL_hangs_83 (by decide) ?_
                          refine lv_icmp_ge (tgt := 129) hx hb dL_hangs_85 (by decide) (fun c16 => ?_) (fun c16 => ?_)
                          · replace hp := hp.1 c16
                            replace he := he.trans (if_pos c16)
                            refine W.widen (k := (kc19 + 64)) (n := (ks19 + 384)) (by omega) (by omega) ?_
                            exact kont15 _ _ he _ _ hP hD hS _ (lv_sub hl [1, 2, 3, 4, 5] rfl)
                          · replace hp := hp.2 c16
                            replace he := he.trans (if_neg c16)
                            refine lv_iload hx hb dL_hangs_88 (lv_at hl 2 rfl) ?_
                            obtain ⟨j17, hJ17⟩ : ∃ z : Int32, z = (if v81_5 = 0 then (if (f_L_needs gn v4_2 v81_6) = 1 then (if (f_L_depends gb v81_6 v19_4) = 1 then (1 : Int32) else (0 : Int32)) else (0 : Int32)) else (1 : Int32)) := ⟨_, rfl⟩
                            rw [← hJ17] at he
                            try dsimp only at he
                            have hpJ17 := hp.1
                            replace hp := hp.2 _  hJ17.symm
                            have kont17 : (j17 = 0 ∨ j17 = 1) → ∀ (H : Heap) (locs : List Loc), va_P D vwCl (W_X4 cI x0 g0 g1 g2 g3 g4 l0 l1 l2 l3 l4 l5 t0 t1 t2 xr xt gn gu gb ga lc lk ln lt ll lr tw tn tt) H → va_D A (W_X4 cI x0 g0 g1 g2 g3 g4 l0 l1 l2 l3 l4 l5 t0 t1 t2 xr xt gn gu gb ga lc lk ln lt ll lr tw tn tt) → va_S A s.heap H locs → ∀ ls : Array Slot, lv_has ls 7 [(6, .int v81_6), (3, .int j10), (4, .int v19_4), (2, .int v4_2), (0, .ref x0)] → W p l e (headSpec wsL_hangs rm_L_hangs).room s m ([.ref x0] : List Value).toArray below meth c H locs (kc81 + 4) (ks81 + 24) (MQ below (Q_L_hangs D cI x0 g0 g1 g2 g3 g4 l0 l1 l2 l3 l4 l5 t0 t1 t2 xr xt gn gu gb ga lc lk ln lt ll lr tw tn tt A) ([.ref x0] : List Value).toArray s 14865 89190 A) (F0 m 121 ls [.int j17]) := by
                              intro hb17 H locs hP hD hS ls hl
                              refine lv_istore (lv' := [(5, .int j17), (6, .int v81_6), (3, .int j10), (4, .int v19_4), (2, .int v4_2), (0, .ref x0)]) hx hb dL_hangs_121 hl (by decide) rfl (fun ls hl => ?_)
                              refine lv_iinc (v := (v81_6 + 1)) (lv' := [(6, .int (v81_6 + 1)), (5, .int j17), (3, .int j10), (4, .int v19_4), (2, .int v4_2), (0, .ref x0)]) hx hb dL_hangs_123 hl (k := 1) rfl rfl (by decide) rfl (fun ls hl => ?_)
                              refine lv_goto (tgt := 81) hx hb dL_hangs_126 (by decide) ?_
                              refine W.widen (k := kc81 + 4) (n := ks81 + 24) (by omega) (by omega) ?_
                              exact ih _ _ (kc81 + 4) (ks81 + 24) (by omega) (by omega) hp he _ _ hP hD hS _ (lv_sub hl [0, 2, 1, 3, 4, 5] rfl)
                            replace he := hJ17
                            replace hp := hpJ17
                            refine lv_if_ne (tgt := 116) hx hb dL_hangs_90 (by decide) (fun c18 => ?_) (fun c18 => ?_)
                            · replace hp := hp.2 c18
                              replace he := he.trans (if_neg c18)
                              refine lv_iconst (v := 1) hx hb dL_hangs_116 (by decide) ?_
                              refine lv_goto (tgt := 121) hx hb dL_hangs_117 (by decide) ?_
                              subst he
                              refine W.widen (k := (kc81 + 4)) (n := (ks81 + 24)) (by omega) (by omega) ?_
                              exact kont17 (Or.inr rfl) _ _ hP hD hS _ (lv_sub hl [0, 1, 3, 4, 5] rfl)
                            · replace hp := hp.1 c18
                              replace he := he.trans (if_pos c18)
                              refine lv_aload_n hx hb dL_hangs_93 rfl (lv_at hl 5 rfl) ?_
                              refine lv_iload_n hx hb dL_hangs_94 rfl (lv_at hl 4 rfl) ?_
                              refine lv_iload hx hb dL_hangs_95 (lv_at hl 0 rfl) ?_
                              have hq19 := hp.1
                              replace hp := hp.2
                              refine k_ycalli (S := Unit) (wc := (W_X4 cI x0 g0 g1 g2 g3 g4 l0 l1 l2 l3 l4 l5 t0 t1 t2 xr xt gn gu gb ga lc lk ln lt ll lr tw tn tt)) (wr := ([] : va_W)) (w1 := fun u => (W_X4 cI x0 g0 g1 g2 g3 g4 l0 l1 l2 l3 l4 l5 t0 t1 t2 xr xt gn gu gb ga lc lk ln lt ll lr tw tn tt)) (fun u => (W_X4 cI x0 g0 g1 g2 g3 g4 l0 l1 l2 l3 l4 l5 t0 t1 t2 xr xt gn gu gb ga lc lk ln lt ll lr tw tn tt)) hP hK hD hN hXB hS hA [0, 1, 2, 3, 4, 5, 6, 7, 8, 9, 10, 11, 12, 13, 14] [] rfl rfl (by decide) (by decide) (by decide) [0, 1, 2, 3, 4, 5, 6, 7, 8, 9, 10, 11, 12, 13, 14] (by decide) (fun _ => rfl) (fun hg => vx_runSW (As := [.ref x0, .int v4_2, .int v81_6]) (rest := []) ⟨hx, hb, hml, hown, hts⟩ (c_L_needs l D cI x0 g0 g1 g2 g3 g4 l0 l1 l2 l3 l4 l5 t0 t1 t2 xr xt gn gu gb ga lc lk ln lt ll lr tw tn tt _ v4_2 v81_6 hq19 hst) (vx_cwSW 3 hts gL_hangs_L_needs rfl rfl rfl (by decide +kernel) ⟨Nat.le_of_ble_eq_true rfl, Nat.le_of_ble_eq_true rfl⟩) ⟨PX.blind, fun U hU hW => ⟨rfl, hg U hU hW⟩⟩ rfl rfl hl.1 rfl (lv_room (Nat.le_of_ble_eq_true rfl)) dL_hangs_97 ⟨(by show kc81 + 2 ≤ 14865; omega), (by show ks81 + 12 ≤ 89190; omega)⟩) (fun r19 u H locs hw hP hD hS => ?_)
                              subst hw
                              refine lv_iconst (v := 1) hx hb dL_hangs_100 (by decide) ?_
                              refine lv_icmp_ne (tgt := 120) hx hb dL_hangs_101 (by decide) (fun c20 => ?_) (fun c20 => ?_)
                              · replace hp := hp.2 c20
                                replace he := he.trans (if_neg c20)
                                refine lv_iconst (v := 0) hx hb dL_hangs_120 (by decide) ?_
                                subst he
                                refine W.widen (k := (kc81 + 4)) (n := (ks81 + 24)) (by omega) (by omega) ?_
                                exact kont17 (Or.inl rfl) _ _ hP hD hS _ (lv_sub hl [0, 1, 3, 4, 5] rfl)
                              · replace hp := hp.1 c20
                                replace he := he.trans (if_pos c20)
                                refine lv_aload_n hx hb dL_hangs_104 rfl (lv_at hl 5 rfl) ?_
                                refine lv_iload hx hb dL_hangs_105 (lv_at hl 0 rfl) ?_
                                refine lv_iload hx hb dL_hangs_107 (lv_at hl 3 rfl) ?_
                                have hq21 := hp.1
                                replace hp := hp.2
                                refine k_ycalli (S := Unit) (wc := (W_X4 cI x0 g0 g1 g2 g3 g4 l0 l1 l2 l3 l4 l5 t0 t1 t2 xr xt gn gu gb ga lc lk ln lt ll lr tw tn tt)) (wr := ([] : va_W)) (w1 := fun u => (W_X4 cI x0 g0 g1 g2 g3 g4 l0 l1 l2 l3 l4 l5 t0 t1 t2 xr xt gn gu gb ga lc lk ln lt ll lr tw tn tt)) (fun u => (W_X4 cI x0 g0 g1 g2 g3 g4 l0 l1 l2 l3 l4 l5 t0 t1 t2 xr xt gn gu gb ga lc lk ln lt ll lr tw tn tt)) hP hK hD hN hXB hS hA [0, 1, 2, 3, 4, 5, 6, 7, 8, 9, 10, 11, 12, 13, 14] [] rfl rfl (by decide) (by decide) (by decide) [0, 1, 2, 3, 4, 5, 6, 7, 8, 9, 10, 11, 12, 13, 14] (by decide) (fun _ => rfl) (fun hg => vx_runSW (As := [.ref x0, .int v81_6, .int v19_4]) (rest := []) ⟨hx, hb, hml, hown, hts⟩ (c_L_depends l D cI x0 g0 g1 g2 g3 g4 l0 l1 l2 l3 l4 l5 t0 t1 t2 xr xt gn gu gb ga lc lk ln lt ll lr tw tn tt _ v81_6 v19_4 hq21 hst) (vx_cwSW 3 hts gL_hangs_L_depends rfl rfl rfl (by decide +kernel) ⟨Nat.le_of_ble_eq_true rfl, Nat.le_of_ble_eq_true rfl⟩) ⟨PX.blind, fun U hU hW => ⟨rfl, hg U hU hW⟩⟩ rfl rfl hl.1 rfl (lv_room (Nat.le_of_ble_eq_true rfl)) dL_hangs_109 ⟨(by show (kc81 + 2) + 2 ≤ 14865; omega), (by show (ks81 + 12) + 12 ≤ 89190; omega)⟩) (fun r21 u H locs hw hP hD hS => ?_)
                                subst hw
                                refine lv_iconst (v := 1) hx hb dL_hangs_112 (by decide) ?_
                                refine lv_icmp_ne (tgt := 120) hx hb dL_hangs_113 (by decide) (fun c22 => ?_) (fun c22 => ?_)
                                · replace hp := hp.2 c22
                                  replace he := he.trans (if_neg c22)
                                  refine lv_iconst (v := 0) hx hb dL_hangs_120 (by decide) ?_
                                  subst he
                                  exact kont17 (Or.inl rfl) _ _ hP hD hS _ (lv_sub hl [0, 1, 3, 4, 5] rfl)
                                · replace hp := hp.1 c22
                                  replace he := he.trans (if_pos c22)
                                  refine lv_iconst (v := 1) hx hb dL_hangs_116 (by decide) ?_
                                  refine lv_goto (tgt := 121) hx hb dL_hangs_117 (by decide) ?_
                                  subst he
                                  exact kont17 (Or.inr rfl) _ _ hP hD hS _ (lv_sub hl [0, 1, 3, 4, 5] rfl)
                      exact loop15 15 j8 (0 : Int32) (kc19 + 4) (ks19 + 24) (Nat.le_refl _) (Nat.le_refl _) hpL15 hL15 _ _ hP hD hS _ (lv_sub hl [0, 1, 2, 3, 4, 5] rfl)
                    replace he := hJ10
                    replace hp := hpJ10
                    refine lv_if_eq (tgt := 76) hx hb dL_hangs_50 (by decide) (fun c11 => ?_) (fun c11 => ?_)
                    · replace hp := hp.1 c11
                      replace he := he.trans (if_pos c11)
                      refine lv_iload_n hx hb dL_hangs_76 rfl (lv_at hl 2 rfl) ?_
                      subst he
                      refine W.widen (k := (kc19 + 4)) (n := (ks19 + 24)) (by omega) (by omega) ?_
                      exact kont10 _ _ hP hD hS _ (lv_sub hl [0, 1, 3, 4] rfl)
                    · replace hp := hp.2 c11
                      replace he := he.trans (if_neg c11)
                      refine lv_aload_n hx hb dL_hangs_53 rfl (lv_at hl 4 rfl) ?_
                      refine lv_iload hx hb dL_hangs_54 (lv_at hl 1 rfl) ?_
                      have hq12 := hp.1
                      replace hp := hp.2
                      refine k_ycalli (S := Unit) (wc := (W_X4 cI x0 g0 g1 g2 g3 g4 l0 l1 l2 l3 l4 l5 t0 t1 t2 xr xt gn gu gb ga lc lk ln lt ll lr tw tn tt)) (wr := ([] : va_W)) (w1 := fun u => (W_X4 cI x0 g0 g1 g2 g3 g4 l0 l1 l2 l3 l4 l5 t0 t1 t2 xr xt gn gu gb ga lc lk ln lt ll lr tw tn tt)) (fun u => (W_X4 cI x0 g0 g1 g2 g3 g4 l0 l1 l2 l3 l4 l5 t0 t1 t2 xr xt gn gu gb ga lc lk ln lt ll lr tw tn tt)) hP hK hD hN hXB hS hA [0, 1, 2, 3, 4, 5, 6, 7, 8, 9, 10, 11, 12, 13, 14] [] rfl rfl (by decide) (by decide) (by decide) [0, 1, 2, 3, 4, 5, 6, 7, 8, 9, 10, 11, 12, 13, 14] (by decide) (fun _ => rfl) (fun hg => vx_runSW (As := [.ref x0, .int v19_4]) (rest := []) ⟨hx, hb, hml, hown, hts⟩ (c_L_height l D cI x0 g0 g1 g2 g3 g4 l0 l1 l2 l3 l4 l5 t0 t1 t2 xr xt gn gu gb ga lc lk ln lt ll lr tw tn tt _ v19_4 hq12 hst) (vx_cwSW 2 hts gL_hangs_L_height rfl rfl rfl (by decide +kernel) ⟨Nat.le_of_ble_eq_true rfl, Nat.le_of_ble_eq_true rfl⟩) ⟨PX.blind, fun U hU hW => ⟨rfl, hg U hU hW⟩⟩ rfl rfl hl.1 rfl (lv_room (Nat.le_of_ble_eq_true rfl)) dL_hangs_56 ⟨(by show (kc19 + 2) + 1 ≤ 14865; omega), (by show (ks19 + 12) + 6 ≤ 89190; omega)⟩) (fun r12 u H locs hw hP hD hS => ?_)
                      subst hw
                      refine lv_iconst (v := 1) hx hb dL_hangs_59 (by decide) ?_
                      refine lv_iadd hx hb dL_hangs_60 ?_
                      refine lv_iload_n hx hb dL_hangs_61 rfl (lv_at hl 2 rfl) ?_
                      refine lv_icmp_le (tgt := 76) hx hb dL_hangs_62 (by decide) (fun c13 => ?_) (fun c13 => ?_)
                      · replace hp := hp.1 c13
                        replace he := he.trans (if_pos c13)
                        refine lv_iload_n hx hb dL_hangs_76 rfl (lv_at hl 2 rfl) ?_
                        subst he
                        refine W.widen (k := (kc19 + 4)) (n := (ks19 + 24)) (by omega) (by omega) ?_
                        exact kont10 _ _ hP hD hS _ (lv_sub hl [0, 1, 3, 4] rfl)
                      · replace hp := hp.2 c13
                        replace he := he.trans (if_neg c13)
                        refine lv_aload_n hx hb dL_hangs_65 rfl (lv_at hl 4 rfl) ?_
                        refine lv_iload hx hb dL_hangs_66 (lv_at hl 1 rfl) ?_
                        have hq14 := hp.1
                        replace hp := hp.2
                        refine k_ycalli (S := Unit) (wc := (W_X4 cI x0 g0 g1 g2 g3 g4 l0 l1 l2 l3 l4 l5 t0 t1 t2 xr xt gn gu gb ga lc lk ln lt ll lr tw tn tt)) (wr := ([] : va_W)) (w1 := fun u => (W_X4 cI x0 g0 g1 g2 g3 g4 l0 l1 l2 l3 l4 l5 t0 t1 t2 xr xt gn gu gb ga lc lk ln lt ll lr tw tn tt)) (fun u => (W_X4 cI x0 g0 g1 g2 g3 g4 l0 l1 l2 l3 l4 l5 t0 t1 t2 xr xt gn gu gb ga lc lk ln lt ll lr tw tn tt)) hP hK hD hN hXB hS hA [0, 1, 2, 3, 4, 5, 6, 7, 8, 9, 10, 11, 12, 13, 14] [] rfl rfl (by decide) (by decide) (by decide) [0, 1, 2, 3, 4, 5, 6, 7, 8, 9, 10, 11, 12, 13, 14] (by decide) (fun _ => rfl) (fun hg => vx_runSW (As := [.ref x0, .int v19_4]) (rest := []) ⟨hx, hb, hml, hown, hts⟩ (c_L_height l D cI x0 g0 g1 g2 g3 g4 l0 l1 l2 l3 l4 l5 t0 t1 t2 xr xt gn gu gb ga lc lk ln lt ll lr tw tn tt _ v19_4 hq14 hst) (vx_cwSW 2 hts gL_hangs_L_height rfl rfl rfl (by decide +kernel) ⟨Nat.le_of_ble_eq_true rfl, Nat.le_of_ble_eq_true rfl⟩) ⟨PX.blind, fun U hU hW => ⟨rfl, hg U hU hW⟩⟩ rfl rfl hl.1 rfl (lv_room (Nat.le_of_ble_eq_true rfl)) dL_hangs_68 ⟨(by show (kc19 + 3) + 1 ≤ 14865; omega), (by show (ks19 + 18) + 6 ≤ 89190; omega)⟩) (fun r14 u H locs hw hP hD hS => ?_)
                        subst hw
                        refine lv_iconst (v := 1) hx hb dL_hangs_71 (by decide) ?_
                        refine lv_iadd hx hb dL_hangs_72 ?_
                        refine lv_goto (tgt := 77) hx hb dL_hangs_73 (by decide) ?_
                        subst he
                        exact kont10 _ _ hP hD hS _ (lv_sub hl [0, 1, 3, 4] rfl)
                  replace he := hJ8
                  replace hp := hpJ8
                  refine lv_icmp_ne (tgt := 45) hx hb dL_hangs_38 (by decide) (fun c9 => ?_) (fun c9 => ?_)
                  · replace hp := hp.2 c9
                    replace he := he.trans (if_neg c9)
                    refine lv_iconst (v := 0) hx hb dL_hangs_45 (by decide) ?_
                    subst he
                    exact kont8 (Or.inl rfl) _ _ hP hD hS _ (lv_sub hl [0, 1, 2, 4] rfl)
                  · replace hp := hp.1 c9
                    replace he := he.trans (if_pos c9)
                    refine lv_iconst (v := 1) hx hb dL_hangs_41 (by decide) ?_
                    refine lv_goto (tgt := 46) hx hb dL_hangs_42 (by decide) ?_
                    subst he
                    exact kont8 (Or.inr rfl) _ _ hP hD hS _ (lv_sub hl [0, 1, 2, 4] rfl)
          exact loop4 15 v4_1 (0 : Int32) (0 : Int32) kc4 ks4 (Nat.le_refl _) (Nat.le_refl _) hpL4 hL4 _ _ hP hD hS _ (lv_sub hl [0, 1, 2, 3, 4] rfl)
  exact loop1 15 (1 : Int32) (0 : Int32) 0 0 (Nat.le_refl _) (Nat.le_refl _) hpL1 hL1 _ _ hP hD hS _ (lv_sub hl [0, 1, 2] rfl)
abbrev rm_L_size : Room := { frames := 0, cells := 0, slots := 0, locals := 0 }
abbrev Q_L_size (D : va_G) (cI : ClassId) (a0 : Int32) (A : Nat → Prop) : Array Value → State → Outcome → State → Prop := va_Qi (S := Unit) (fun r u => f_L_size a0 = r) (fun u t => QW D [(cI, .int)] A ([] : va_W) t) A
set_option maxHeartbeats 60000000 in
set_option maxRecDepth 100000 in
theorem c_L_size (l : Launch)  (D : va_G) (cI : ClassId) (sz : Nat) (a0 : Int32) (hp : p_L_size a0) : Met l yL_size wsL_size rm_L_size (va_Pc [.int a0] (PW D [(cI, .int)] sz ([] : va_W))) (Q_L_size D cI a0 (va_A ([] : va_W) sz)) 0 0 (va_A ([] : va_W) sz) := by
  refine Met.ofW (cc := cL_size) (maxL := 3) (ret := (some .int)) (by decide) rfl ?_
  intro p e s m args below meth c s₁ B hml hv
  obtain ⟨rfl, hsz, hP, hK, hD0, hN⟩ := hv
  have hx := B.exec
  have hb := B.bytes
  have hr := B.returns
  have hts := atoms_spec (ws := wsL_size) B.pre
  have hown : s.vm.findClass RL = some m.cls := findClass_of_methodNamed B.named
  have hlocks := B.notSynchronized
  subst hsz
  have hD := hD0.self (sz := s.heap.size)
  generalize hAe : va_A ([] : va_W) s.heap.size = A at hD ⊢
  have hA : ∀ q : Nat, s.heap.size ≤ q → A q := fun q h => by rw [← hAe]; exact Or.inr h
  have hS : va_S A s.heap s.heap [] := va_S.rf
  have hl := lv_entry ([.int a0]) (n := 3) (Nat.le_of_ble_eq_true rfl)
  rw [lg_entry_eq]
  generalize (lg_sl ([.int a0]) ++ List.replicate (3 - (lg_sl ([.int a0])).length) Slot.unset).toArray = ls at hl ⊢
  have hl : lv_has ls 3 [(0, .int a0)] := hl
  have he := f_L_size.eq_1 a0
  replace hp := Eq.mp (p_L_size.eq_1 ..) hp
  refine lv_iconst (v := 0) hx hb dL_size_0 (by decide) ?_
  refine lv_istore_n (lv' := [(1, .int 0), (0, .int a0)]) hx hb dL_size_1 rfl hl (by decide) rfl (fun ls hl => ?_)
  refine lv_iconst (v := 0) hx hb dL_size_2 (by decide) ?_
  refine lv_istore_n (lv' := [(2, .int 0), (1, .int 0), (0, .int a0)]) hx hb dL_size_3 rfl hl (by decide) rfl (fun ls hl => ?_)
  obtain ⟨⟨r1_v4_1, r1_v4_2⟩, hL1⟩ : ∃ z, z = f_L_size_L4 a0 15 (0 : Int32) (0 : Int32) := ⟨_, rfl⟩
  rw [← hL1] at he
  try dsimp only at he
  have hpL1 := hp.1
  replace hp := hp.2 _ _ hL1.symm
  have kont1 : ∀ (x1_v4_1 : Int32) (x1_v4_2 : Int32), (r1_v4_1, r1_v4_2) = (x1_v4_1, x1_v4_2) → ∀ (H : Heap) (locs : List Loc), va_P D vwCl ([] : va_W) H → va_D A ([] : va_W) → va_S A s.heap H locs → ∀ ls : Array Slot, lv_has ls 3 [(1, .int x1_v4_1)] → W p l e (headSpec wsL_size rm_L_size).room s m ([.int a0] : List Value).toArray below meth c H locs 0 0 (MQ below (Q_L_size D cI a0 A) ([.int a0] : List Value).toArray s 0 0 A) (F0 m 24 ls []) := by
    intro x1_v4_1 x1_v4_2 hxe H locs hP hD hS ls hl
    simp only [Prod.mk.injEq] at hxe
    obtain ⟨rfl, rfl⟩ := hxe
    refine lv_iload_n hx hb dL_size_24 rfl (lv_at hl 0 rfl) ?_
    exact W.iret (v := r1_v4_1) hx hb hr (fun t ht hW => ⟨⟨r1_v4_1, (), rfl, he, by rw [ht]; exact hP, va_K.moved hW.alike hK, hD⟩, hS.F ht⟩) hS.2.2 dL_size_25
  have loop1 : ∀ (n : Nat) (v4_1 : Int32) (v4_2 : Int32), p_L_size_L4 a0 n v4_1 v4_2 → (r1_v4_1, r1_v4_2) = f_L_size_L4 a0 n v4_1 v4_2 → ∀ (H : Heap) (locs : List Loc), va_P D vwCl ([] : va_W) H → va_D A ([] : va_W) → va_S A s.heap H locs → ∀ ls : Array Slot, lv_has ls 3 [(2, .int v4_2), (1, .int v4_1), (0, .int a0)] → W p l e (headSpec wsL_size rm_L_size).room s m ([.int a0] : List Value).toArray below meth c H locs 0 0 (MQ below (Q_L_size D cI a0 A) ([.int a0] : List Value).toArray s 0 0 A) (F0 m 4 ls []) := by
    intro n
    induction n with
    | zero => exact fun _ _ hp => hp.elim
    | succ n ih =>
      intro v4_1 v4_2 hp he H locs hP hD hS ls hl
      replace hp := Eq.mp (p_L_size_L4.eq_2 ..) hp
      replace he := he.trans (f_L_size_L4.eq_2 ..)
      refine lv_iload_n hx hb dL_size_4 rfl (lv_at hl 0 rfl) ?_
      refine lv_bipush (v := 14) hx hb dL_size_5 (by decide) ?_
      refine lv_icmp_ge (tgt := 24) hx hb dL_size_7 (by decide) (fun c2 => ?_) (fun c2 => ?_)
      · replace hp := hp.1 c2
        replace he := he.trans (if_pos c2)
        exact kont1 _ _ he _ _ hP hD hS _ (lv_sub hl [1] rfl)
      · replace hp := hp.2 c2
        replace he := he.trans (if_neg c2)
        refine lv_iload_n hx hb dL_size_10 rfl (lv_at hl 1 rfl) ?_
        refine lv_iload_n hx hb dL_size_11 rfl (lv_at hl 2 rfl) ?_
        refine lv_iload_n hx hb dL_size_12 rfl (lv_at hl 0 rfl) ?_
        refine lv_ishr hx hb dL_size_13 ?_
        refine lv_iconst (v := 1) hx hb dL_size_14 (by decide) ?_
        refine lv_iand hx hb dL_size_15 ?_
        refine lv_iadd hx hb dL_size_16 ?_
        refine lv_istore_n (lv' := [(1, .int (v4_1 + ((a0 >>> (v4_2 &&& 31)) &&& 1))), (2, .int v4_2), (0, .int a0)]) hx hb dL_size_17 rfl hl (by decide) rfl (fun ls hl => ?_)
        refine lv_iinc (v := (v4_2 + 1)) (lv' := [(2, .int (v4_2 + 1)), (1, .int (v4_1 + ((a0 >>> (v4_2 &&& 31)) &&& 1))), (0, .int a0)]) hx hb dL_size_18 hl (k := 1) rfl rfl (by decide) rfl (fun ls hl => ?_)
        refine lv_goto (tgt := 4) hx hb dL_size_21 (by decide) ?_
        exact ih _ _ hp he _ _ hP hD hS _ (lv_sub hl [0, 1, 2] rfl)
  exact loop1 15 (0 : Int32) (0 : Int32) hpL1 hL1 _ _ hP hD hS _ (lv_sub hl [0, 1, 2] rfl)
abbrev rm_L_all : Room := { frames := 0, cells := 0, slots := 0, locals := 0 }
abbrev Q_L_all (D : va_G) (cI : ClassId) (k0 : Nat) (kl : AA) (a1 : Int32) (A : Nat → Prop) : Array Value → State → Outcome → State → Prop := va_Qi (S := Unit) (fun r u => f_L_all kl a1 = r) (fun u t => QW D [(cI, .int)] A (W_A cI k0 kl) t) A
set_option maxHeartbeats 60000000 in
set_option maxRecDepth 100000 in
theorem c_L_all (l : Launch)  (D : va_G) (cI : ClassId) (k0 : Nat) (kl : AA) (sz : Nat) (a1 : Int32) (hp : p_L_all kl a1) : Met l yL_all wsL_all rm_L_all (va_Pc [.ref k0, .int a1] (PW D [(cI, .int)] sz (W_A cI k0 kl))) (Q_L_all D cI k0 kl a1 (va_A (W_A cI k0 kl) sz)) 0 0 (va_A (W_A cI k0 kl) sz) := by
  refine Met.ofW (cc := cL_all) (maxL := 4) (ret := (some .int)) (by decide) rfl ?_
  intro p e s m args below meth c s₁ B hml hv
  obtain ⟨rfl, hsz, hP, hK, hD0, hN⟩ := hv
  have hx := B.exec
  have hb := B.bytes
  have hr := B.returns
  have hts := atoms_spec (ws := wsL_all) B.pre
  have hown : s.vm.findClass RL = some m.cls := findClass_of_methodNamed B.named
  have hlocks := B.notSynchronized
  subst hsz
  have hD := hD0.self (sz := s.heap.size)
  generalize hAe : va_A (W_A cI k0 kl) s.heap.size = A at hD ⊢
  have hA : ∀ q : Nat, s.heap.size ≤ q → A q := fun q h => by rw [← hAe]; exact Or.inr h
  have hS : va_S A s.heap s.heap [] := va_S.rf
  have hl := lv_entry ([.ref k0, .int a1]) (n := 4) (Nat.le_of_ble_eq_true rfl)
  rw [lg_entry_eq]
  generalize (lg_sl ([.ref k0, .int a1]) ++ List.replicate (4 - (lg_sl ([.ref k0, .int a1])).length) Slot.unset).toArray = ls at hl ⊢
  have hl : lv_has ls 4 [(0, .ref k0), (1, .int a1)] := hl
  have he := f_L_all.eq_1 kl a1
  replace hp := Eq.mp (p_L_all.eq_1 ..) hp
  refine lv_iconst (v := 0) hx hb dL_all_0 (by decide) ?_
  refine lv_istore_n (lv' := [(2, .int 0), (0, .ref k0), (1, .int a1)]) hx hb dL_all_1 rfl hl (by decide) rfl (fun ls hl => ?_)
  refine lv_iconst (v := 0) hx hb dL_all_2 (by decide) ?_
  refine lv_istore_n (lv' := [(3, .int 0), (2, .int 0), (0, .ref k0), (1, .int a1)]) hx hb dL_all_3 rfl hl (by decide) rfl (fun ls hl => ?_)
  obtain ⟨⟨r1_v4_2, r1_v4_3⟩, hL1⟩ : ∃ z, z = f_L_all_L4 kl a1 15 (0 : Int32) (0 : Int32) := ⟨_, rfl⟩
  rw [← hL1] at he
  try dsimp only at he
  have hpL1 := hp.1
  replace hp := hp.2 _ _ hL1.symm
  have kont1 : ∀ (x1_v4_2 : Int32) (x1_v4_3 : Int32), (r1_v4_2, r1_v4_3) = (x1_v4_2, x1_v4_3) → ∀ (H : Heap) (locs : List Loc), va_P D vwCl (W_A cI k0 kl) H → va_D A (W_A cI k0 kl) → va_S A s.heap H locs → ∀ ls : Array Slot, lv_has ls 4 [(2, .int x1_v4_2)] → W p l e (headSpec wsL_all rm_L_all).room s m ([.ref k0, .int a1] : List Value).toArray below meth c H locs 0 0 (MQ below (Q_L_all D cI k0 kl a1 A) ([.ref k0, .int a1] : List Value).toArray s 0 0 A) (F0 m 35 ls []) := by
    intro x1_v4_2 x1_v4_3 hxe H locs hP hD hS ls hl
    simp only [Prod.mk.injEq] at hxe
    obtain ⟨rfl, rfl⟩ := hxe
    refine lv_iload_n hx hb dL_all_35 rfl (lv_at hl 0 rfl) ?_
    exact W.iret (v := r1_v4_2) hx hb hr (fun t ht hW => ⟨⟨r1_v4_2, (), rfl, he, by rw [ht]; exact hP, va_K.moved hW.alike hK, hD⟩, hS.F ht⟩) hS.2.2 dL_all_36
  have loop1 : ∀ (n : Nat) (v4_2 : Int32) (v4_3 : Int32), p_L_all_L4 kl a1 n v4_2 v4_3 → (r1_v4_2, r1_v4_3) = f_L_all_L4 kl a1 n v4_2 v4_3 → ∀ (H : Heap) (locs : List Loc), va_P D vwCl (W_A cI k0 kl) H → va_D A (W_A cI k0 kl) → va_S A s.heap H locs → ∀ ls : Array Slot, lv_has ls 4 [(3, .int v4_3), (2, .int v4_2), (0, .ref k0), (1, .int a1)] → W p l e (headSpec wsL_all rm_L_all).room s m ([.ref k0, .int a1] : List Value).toArray below meth c H locs 0 0 (MQ below (Q_L_all D cI k0 kl a1 A) ([.ref k0, .int a1] : List Value).toArray s 0 0 A) (F0 m 4 ls []) := by
    intro n
    induction n with
    | zero => exact fun _ _ hp => hp.elim
    | succ n ih =>
      intro v4_2 v4_3 hp he H locs hP hD hS ls hl
      replace hp := Eq.mp (p_L_all_L4.eq_2 ..) hp
      replace he := he.trans (f_L_all_L4.eq_2 ..)
      refine lv_iload_n hx hb dL_all_4 rfl (lv_at hl 0 rfl) ?_
      refine lv_bipush (v := 14) hx hb dL_all_5 (by decide) ?_
      refine lv_icmp_ge (tgt := 35) hx hb dL_all_7 (by decide) (fun c2 => ?_) (fun c2 => ?_)
      · replace hp := hp.1 c2
        replace he := he.trans (if_pos c2)
        exact kont1 _ _ he _ _ hP hD hS _ (lv_sub hl [1] rfl)
      · replace hp := hp.2 c2
        replace he := he.trans (if_neg c2)
        refine lv_iload_n hx hb dL_all_10 rfl (lv_at hl 1 rfl) ?_
        refine lv_iload_n hx hb dL_all_11 rfl (lv_at hl 3 rfl) ?_
        refine lv_iload_n hx hb dL_all_12 rfl (lv_at hl 0 rfl) ?_
        refine lv_ishr hx hb dL_all_13 ?_
        refine lv_iconst (v := 1) hx hb dL_all_14 (by decide) ?_
        refine lv_iand hx hb dL_all_15 ?_
        refine lv_iconst (v := 1) hx hb dL_all_16 (by decide) ?_
        obtain ⟨j3, hJ3⟩ : ∃ z : Int32, z = (if ((a1 >>> (v4_3 &&& 31)) &&& 1) = 1 then (kl (v4_3).toNatClampNeg) else (0 : Int32)) := ⟨_, rfl⟩
        rw [← hJ3] at he
        try dsimp only at he
        have hpJ3 := hp.1
        replace hp := hp.2 _  hJ3.symm
        have kont3 : ∀ (H : Heap) (locs : List Loc), va_P D vwCl (W_A cI k0 kl) H → va_D A (W_A cI k0 kl) → va_S A s.heap H locs → ∀ ls : Array Slot, lv_has ls 4 [(3, .int v4_3), (0, .ref k0), (1, .int a1)] → W p l e (headSpec wsL_all rm_L_all).room s m ([.ref k0, .int a1] : List Value).toArray below meth c H locs 0 0 (MQ below (Q_L_all D cI k0 kl a1 A) ([.ref k0, .int a1] : List Value).toArray s 0 0 A) (F0 m 27 ls [.int j3, .int v4_2]) := by
          intro H locs hP hD hS ls hl
          refine lv_ior hx hb dL_all_27 ?_
          refine lv_istore_n (lv' := [(2, .int (v4_2 ||| j3)), (3, .int v4_3), (0, .ref k0), (1, .int a1)]) hx hb dL_all_28 rfl hl (by decide) rfl (fun ls hl => ?_)
          refine lv_iinc (v := (v4_3 + 1)) (lv' := [(3, .int (v4_3 + 1)), (2, .int (v4_2 ||| j3)), (0, .ref k0), (1, .int a1)]) hx hb dL_all_29 hl (k := 1) rfl rfl (by decide) rfl (fun ls hl => ?_)
          refine lv_goto (tgt := 4) hx hb dL_all_32 (by decide) ?_
          exact ih _ _ hp he _ _ hP hD hS _ (lv_sub hl [0, 1, 2, 3] rfl)
        replace he := hJ3
        replace hp := hpJ3
        refine lv_icmp_ne (tgt := 26) hx hb dL_all_17 (by decide) (fun c4 => ?_) (fun c4 => ?_)
        · replace hp := hp.2 c4
          replace he := he.trans (if_neg c4)
          refine lv_iconst (v := 0) hx hb dL_all_26 (by decide) ?_
          subst he
          exact kont3 _ _ hP hD hS _ (lv_sub hl [0, 2, 3] rfl)
        · replace hp := hp.1 c4
          replace he := he.trans (if_pos c4)
          refine lv_aload_n hx hb dL_all_20 rfl (lv_at hl 2 rfl) ?_
          refine lv_iload_n hx hb dL_all_21 rfl (lv_at hl 0 rfl) ?_
          have h5 := hp.1
          replace hp := hp.2
          refine va_iald hx hb hK hP 0 0 rfl rfl h5 dL_all_22 ?_
          refine lv_goto (tgt := 27) hx hb dL_all_23 (by decide) ?_
          subst he
          exact kont3 _ _ hP hD hS _ (lv_sub hl [0, 2, 3] rfl)
  exact loop1 15 (0 : Int32) (0 : Int32) hpL1 hL1 _ _ hP hD hS _ (lv_sub hl [0, 1, 2, 3] rfl)
