/-! ===== tickets and events, as far as the law asks ===== -/
def TI (T : Nat) (r : Int32) (tn : AA) : Prop := ∀ k, k < 14 → (bt r k = false ∧ tn k = -1) ∨ (bt r k = true ∧ ∃ t, 1 ≤ t ∧ t ≤ T ∧ tn k = nI t)
theorem TI.tr {T : Nat} {r : Int32} {tn : AA} (hT : T ≤ 300) (h : TI T r tn) : TR r tn := fun k hk => by
  rcases h k hk with ⟨a, b⟩ | ⟨a, t, t1, t2, t3⟩
  · rw [a, b]
    exact ⟨fun q => (by cases q), fun q => absurd (by decide) q⟩
  · rw [a, t3]
    exact ⟨fun _ => nI_nle (by omega) (by omega), fun _ => rfl⟩
/-- raised nodes, events, tickets -/
def ST (C : Nat) (xr lc tw : Int32) (tn : AA) : Prop := M14 xr ∧ lc = nI C ∧ ∃ T, tw = nI T ∧ T ≤ C ∧ TI T xr tn
theorem ST.tr {C : Nat} {xr lc tw : Int32} {tn : AA} (hC : C ≤ 300) (h : ST C xr lc tw tn) : TR xr tn := by
  obtain ⟨-, -, T, -, hT, h2⟩ := h
  exact h2.tr (by omega)
theorem set_b {x : Int32} {i k : Nat} (hi : i < 14) : bt (x ||| f_X4_only (nI i)) k = true ↔ bt x k = true ∨ k = i := by rw [b_or, Bool.or_eq_true, only_bT hi]
theorem TI.put {T T' : Nat} {r v : Int32} {tn tn' : AA} {i m : Nat} (hi : i < 14) (h1 : 1 ≤ m) (h2 : m ≤ T') (hv : v = nI m) (h : ∀ k, k < 14 → ¬ k = i → (bt r k = false ∧ tn' k = -1) ∨ (bt r k = true ∧ ∃ t, 1 ≤ t ∧ t ≤ T' ∧ tn' k = nI t)) : TI T' (r ||| f_X4_only (nI i)) (upd tn' i v) := fun k hk => by
  rw [upd_at]
  by_cases e : k = i
  · rw [if_pos e]
    exact Or.inr ⟨(set_b hi).mpr (Or.inr e), m, h1, h2, hv⟩
  · rw [if_neg e]
    rcases h k hk e with ⟨a, b⟩ | ⟨a, b⟩
    · refine Or.inl ⟨?_, b⟩
      cases hc : bt (r ||| f_X4_only (nI i)) k
      · rfl
      · rcases (set_b hi).mp hc with q | q
        · rw [a] at q; cases q
        · exact absurd q e
    · exact Or.inr ⟨(set_b hi).mpr (Or.inl a), b⟩
theorem low7 {T : Nat} {K : Int32} {tn : AA} (hT : T ≤ 300) (hK : ∀ k, k < 14 → bt K k = true → ∃ t, 1 ≤ t ∧ t ≤ T ∧ tn k = nI t) : ∀ (c j n m : Nat), j + c = 14 → c < n → 1 ≤ m → m ≤ T → p_X3_unite_L7 tn K n (nI m) (nI j) ∧ ∃ m', f_X3_unite_L7 tn K n (nI m) (nI j) = (nI m', nI 14) ∧ 1 ≤ m' ∧ m' ≤ T := by
  intro c
  induction c with
  | zero =>
    intro j n m hj hn h1 h2
    obtain ⟨n, rfl⟩ : ∃ k, n = k + 1 := ⟨n - 1, by omega⟩
    have e : j = 14 := by omega
    subst e
    refine ⟨?_, m, ?_, h1, h2⟩
    · rw [p_X3_unite_L7]; exact ⟨fun _ => trivial, fun q => absurd y14 q⟩
    · rw [f_X3_unite_L7, if_pos y14]
  | succ c ih =>
    intro j n m hj hn h1 h2
    obtain ⟨n, rfl⟩ : ∃ k, n = k + 1 := ⟨n - 1, by omega⟩
    have hj14 : j < 14 := by omega
    have hh := has4_0 K (n := j) (by omega)
    cases hb : bt K j
    · obtain ⟨a1, m', a2, a3⟩ := ih (j + 1) n m (by omega) (by omega) h1 h2
      refine ⟨?_, m', ?_, a3⟩
      · rw [p_X3_unite_L7]
        exact ⟨fun q => absurd q (n14 hj14), fun _ => ⟨fun _ => by rw [nI_1]; exact a1, fun q => absurd (hh.mpr hb) q⟩⟩
      · rw [f_X3_unite_L7, if_neg (n14 hj14), if_pos (hh.mpr hb), nI_1]; exact a2
    · have c0 : ¬ f_X4_has K (nI j) = 0 := fun q => by rw [hh.mp q] at hb; cases hb
      obtain ⟨t, t1, t2, t3⟩ := hK j hj14 hb
      obtain ⟨z, hz⟩ : ∃ z : Int32, z = (if tn (nI j).toNatClampNeg < nI m then tn (nI j).toNatClampNeg else nI m) := ⟨_, rfl⟩
      obtain ⟨m2, e2, m21, m22⟩ : ∃ m2, z = nI m2 ∧ 1 ≤ m2 ∧ m2 ≤ T := by
        rw [cl (by omega), t3] at hz
        by_cases q : nI t < nI m
        · rw [if_pos q] at hz; exact ⟨t, hz, t1, t2⟩
        · rw [if_neg q] at hz; exact ⟨m, hz, h1, h2⟩
      obtain ⟨a1, m', a2, a3⟩ := ih (j + 1) n m2 (by omega) (by omega) m21 m22
      refine ⟨?_, m', ?_, a3⟩
      · rw [p_X3_unite_L7]
        refine ⟨fun q => absurd q (n14 hj14), fun _ => ⟨fun q => absurd q c0, fun _ => ⟨in14 hj14, fun y q => ?_⟩⟩⟩
        rw [← hz] at q
        subst q
        rw [e2, nI_1]
        exact a1
      · rw [f_X3_unite_L7, if_neg (n14 hj14), if_neg c0, ← hz, e2, nI_1]; exact a2
theorem join_spec {T : Nat} {r K : Int32} {tn tt : AA} {i : Nat} (hT : T < 300) (h : TI T r tn) (hi : i < 14) (hKM : M14 K) (hK : ∀ k, k < 14 → bt K k = true → bt r k = true) : p_X3_join (nI T) tn tt (nI i) K ∧ ∃ v T' tn' tt', f_X3_join (nI T) tn tt (nI i) K = (v, nI T', tn', tt') ∧ ¬ v ≤ 0 ∧ T' ≤ T + 1 ∧ TI T' (r ||| f_X4_only (nI i)) tn' := by
  have hK2 : ∀ k, k < 14 → bt K k = true → ∃ t, 1 ≤ t ∧ t ≤ T ∧ tn k = nI t := fun k hk hb => by
    rcases h k hk with ⟨a, _⟩ | ⟨_, b⟩
    · rw [hK k hk hb] at a; cases a
    · exact b
  by_cases c : K = 0
  · refine ⟨⟨fun _ => ⟨in14 hi, in14 hi, trivial⟩, fun q => absurd c q⟩, nI (T + 1), T + 1, upd tn i (nI (T + 1)), tt, ?_, nI_nle (by omega) (by omega), Nat.le_refl _, ?_⟩
    · unfold f_X3_join
      rw [if_pos c, cl (by omega), nI_1, upd_at, if_pos rfl]
    · refine TI.put (T := T) hi (Nat.le_add_left 1 T) (Nat.le_refl _) rfl (tn := tn) fun k hk _ => ?_
      rcases h k hk with q | ⟨q, t, t1, t2, t3⟩
      · exact Or.inl q
      · exact Or.inr ⟨q, t, t1, by omega, t3⟩
  · obtain ⟨x, hx, hxb⟩ := (nz_iff hKM).mp c
    obtain ⟨t0, u1, u2, -⟩ := hK2 x hx hxb
    obtain ⟨a1, m, a2, m1, m2⟩ := low7 (by omega) hK2 14 0 15 T rfl (by decide) (by omega) (Nat.le_refl _)
    obtain ⟨b1, tn', tt', b2, b3⟩ := unite_L40 (tn0 := tn) (tt0 := tt) (K := K) (T := T) (m := m) (by omega) m1 m2 hK2 14 0 15 tn tt rfl (by decide) ⟨fun k hk => ⟨fun ⟨t, q, _⟩ => (by obtain ⟨-, -, k, hk, -⟩ := q; omega), fun _ => rfl⟩, fun _ _ => rfl, fun t _ _ => ⟨fun q => (by obtain ⟨-, -, k, hk, -⟩ := q; omega), fun _ => rfl⟩⟩
    rw [nI_0] at a1 a2 b1 b2
    have eu : f_X3_unite (nI T) tn tt K = (nI m, tn', tt') := by
      unfold f_X3_unite
      rw [a2]
      dsimp only
      rw [b2]
    have pu : p_X3_unite (nI T) tn tt K := ⟨a1, fun x y q => by
      rw [a2] at q
      cases q
      exact ⟨b1, fun _ _ _ _ => trivial⟩⟩
    refine ⟨⟨fun q => absurd q c, fun _ => ⟨pu, fun _ _ _ _ => ⟨in14 hi, in14 hi, trivial⟩⟩⟩, nI m, T, upd tn' i (nI m), tt', ?_, nI_nle (by omega) (by omega), by omega, ?_⟩
    · unfold f_X3_join
      rw [if_neg c, eu]
      dsimp only
      rw [cl (by omega), upd_at, if_pos rfl]
    · refine TI.put (T := T) hi m1 m2 rfl (tn := tn) fun k hk _ => ?_
      by_cases w : ∃ t, Pj T m K tn 14 t ∧ tn k = nI t
      · have e := (b3.1 k hk).1 w
        refine Or.inr ⟨?_, m, m1, m2, e⟩
        obtain ⟨t, ⟨-, ⟨q1, q2⟩, -⟩, q3⟩ := w
        rcases h k hk with ⟨_, b⟩ | ⟨b, _⟩
        · rw [q3] at b; exact absurd b (nIn (by omega))
        · exact b
      · rw [(b3.1 k hk).2 w]
        exact h k hk
theorem full0 {C : Nat} (hC : C < 300) : f_X2_isFull (nI C) = 0 := by
  have n1 : nI C < (300 : Int32) := nI_lt (b := 300) hC (by decide)
  unfold f_X2_isFull
  dsimp only
  rw [if_pos n1]
theorem chg {C : Nat} (hC : C < 300) : f_X4_checkChange (nI C) 1 = .inr () := by
  unfold f_X4_checkChange
  rw [if_neg (by decide), if_pos (full0 hC)]
theorem p_add {C : Nat} (hC : C < 300) : p_X2_add (nI C) := ⟨in300 hC, in300 hC, in300 hC, in300 hC, trivial⟩
theorem q_raise_no {xr xt lc tw : Int32} {gb ga lk ln lt ll lr tn tt : AA} {i : Nat} (hi : i < 14) (hb : bt xr i = true) : p_L_raise xr xt gb ga lc lk ln lt ll lr tw tn tt (nI i) ∧ ∃ v, f_L_raise xr xt gb ga lc lk ln lt ll lr tw tn tt (nI i) = (v, xr, lc, lk, ln, lt, ll, lr, tw, tn, tt) ∧ v = -103 := by
  have c0 : ¬ f_X4_has xr (nI i) = 0 := fun q => by rw [(has4_0 xr (n := i) (by omega)).mp q] at hb; cases hb
  have cc : f_X4_checkChange lc 0 = .inl eIS := by unfold f_X4_checkChange; rw [if_pos rfl]
  constructor
  · refine ⟨fun _ => ⟨⟨fun _ => trivial, fun _ => trivial⟩, fun y q => ?_⟩, fun _ _ _ _ _ _ _ _ _ _ _ _ => trivial⟩
    rw [if_neg c0] at q
    subst q
    intro w
    rw [cc] at w
    cases w
  · have e : f_X4_raise xr xt gb ga lc lk ln lt ll lr tw tn tt (nI i) = .inl eIS := by
      unfold f_X4_raise
      rw [chk hi, if_neg c0]
      dsimp only
      rw [cc]
    refine ⟨-103, ?_, rfl⟩
    unfold f_L_raise
    rw [e]
    dsimp only
    rw [if_neg eIS_ne]
theorem q_raise {gn gu gb ga : AA} (h : GI gn gu gb ga) {C : Nat} (hC : C < 300) {xr xt lc tw : Int32} {lk ln lt ll lr tn tt : AA} (hS : ST C xr lc tw tn) {i : Nat} (hi : i < 14) (hb : bt xr i = false) : p_L_raise xr xt gb ga lc lk ln lt ll lr tw tn tt (nI i) ∧
    ∃ v xr' lc' lk' ln' lt' ll' lr' tw' tn' tt', f_L_raise xr xt gb ga lc lk ln lt ll lr tw tn tt (nI i) = (v, xr', lc', lk', ln', lt', ll', lr', tw', tn', tt') ∧ ¬ v ≤ 0 ∧ ST (C + 1) xr' lc' tw' tn' ∧ bt xr' i = true := by
  obtain ⟨hM, rfl, T, rfl, hT, hTI⟩ := hS
  have c0 : f_X4_has xr (nI i) = 0 := (has4_0 xr (n := i) (by omega)).mpr hb
  have hKb : ∀ k, bt ((f_X1_below gb (nI i) ||| f_X1_above ga (nI i)) &&& xr) k = true → bt xr k = true := fun k q => by
    rw [b_and, Bool.and_eq_true] at q
    exact q.2
  obtain ⟨j1, v, T', tn', tt', j2, j3, j4, j5⟩ := join_spec (tt := tt) (K := (f_X1_below gb (nI i) ||| f_X1_above ga (nI i)) &&& xr) (i := i) (by omega) hTI hi (hM.andR _) (fun k _ q => hKb k q)
  constructor
  · refine ⟨fun _ => ⟨⟨fun _ => trivial, fun _ => trivial⟩, fun y q w => ⟨⟨in14 hi, p_add hC, fun _ _ _ _ _ _ => trivial⟩, fun _ _ _ _ _ _ _ => ⟨⟨in14 hi, trivial⟩, ⟨in14 hi, trivial⟩, j1, fun _ _ _ _ _ => trivial⟩⟩⟩, fun _ _ _ _ _ _ _ _ _ _ _ _ => trivial⟩
  · refine ⟨v, xr ||| f_X4_only (nI i), nI (C + 1), upd lk C 0, upd ln C (nI i), upd lt C xt, upd ll C (-1), upd lr i xt, nI T', tn', tt', ?_, j3, ⟨hM.or (only_M hi), rfl, T', rfl, by omega, j5⟩, (set_b hi).mpr (Or.inr rfl)⟩
    have ea : f_X2_addRaise (nI C) lk ln lt ll lr (nI i) xt = (nI (C + 1), upd lk C 0, upd ln C (nI i), upd lt C xt, upd ll C (-1), upd lr i xt) := by
      unfold f_X2_addRaise f_X2_add
      dsimp only
      rw [cl (show C < 2 ^ 31 by omega), cl (show i < 2 ^ 31 by omega), nI_1]
    have e : f_X4_raise xr xt gb ga (nI C) lk ln lt ll lr (nI T) tn tt (nI i) = .inr (v, xr ||| f_X4_only (nI i), nI (C + 1), upd lk C 0, upd ln C (nI i), upd lt C xt, upd ll C (-1), upd lr i xt, nI T', tn', tt') := by
      unfold f_X4_raise
      rw [chk hi, if_pos c0]
      dsimp only
      rw [chg hC]
      dsimp only
      rw [ea]
      dsimp only
      rw [j2]
    unfold f_L_raise
    rw [e]
theorem q_clear {C : Nat} (hC : C < 300) {xr xt lc tw : Int32} {lk ln lt ll lr tn : AA} (hS : ST C xr lc tw tn) {i : Nat} (hi : i < 14) (hb : bt xr i = true) : p_L_clear xr xt lc lk ln lt ll lr tw tn (nI i) ∧
    ∃ v xr' lc' lk' ln' lt' ll' tn', f_L_clear xr xt lc lk ln lt ll lr tw tn (nI i) = (v, xr', lc', lk', ln', lt', ll', tn') ∧ ¬ v < 0 ∧ ST (C + 1) xr' lc' tw tn' ∧ bt xr' i = false ∧ tn' i = -1 := by
  obtain ⟨hM, rfl, T, rfl, hT, hTI⟩ := hS
  have c1 : f_X4_has xr (nI i) = 1 := by rw [has4 xr (by omega), hb]; exact if_pos rfl
  obtain ⟨t, t1, t2, t3⟩ : ∃ t, 1 ≤ t ∧ t ≤ T ∧ tn i = nI t := by
    rcases hTI i hi with ⟨a, _⟩ | ⟨_, b⟩
    · rw [hb] at a; cases a
    · exact b
  have cut : ∀ k, k < 14 → (bt (xr &&& (f_X4_only (nI i) ^^^ (-1))) k = true ↔ bt xr k = true ∧ ¬ k = i) := fun k hk => by
    rw [b_and, not_b _ (by omega), Bool.and_eq_true, Bool.not_eq_true', ← Bool.not_eq_true, only_bT hi]
  constructor
  · exact ⟨fun _ w => ⟨⟨in14 hi, p_add hC, fun _ _ _ _ _ _ => trivial⟩, fun _ _ _ _ _ _ => ⟨⟨in14 hi, in14 hi, size_p _ _ _, trivial⟩, fun _ _ _ => trivial⟩⟩, fun _ _ _ _ _ _ _ _ _ => trivial⟩
  · refine ⟨nI (cnt (upd tn i (-1)) (nI t) 14), xr &&& (f_X4_only (nI i) ^^^ (-1)), nI (C + 1), upd lk C 1, upd ln C (nI i), upd lt C xt, upd ll C (xt - lr i), upd tn i (-1), ?_, nI_pos (by have := cnt_le (upd tn i (-1)) (nI t) 14; omega), ⟨hM.and _, rfl, T, rfl, by omega, fun k hk => ?_⟩, ?_, ?_⟩
    · have ea : f_X2_addClear (nI C) lk ln lt ll lr (nI i) xt = (nI (C + 1), upd lk C 1, upd ln C (nI i), upd lt C xt, upd ll C (xt - lr i)) := by
        unfold f_X2_addClear f_X2_add
        dsimp only
        rw [cl (show C < 2 ^ 31 by omega), cl (show i < 2 ^ 31 by omega), nI_1]
      have el : f_X3_leave (nI T) tn (nI i) = (nI (cnt (upd tn i (-1)) (nI t) 14), upd tn i (-1)) := by
        unfold f_X3_leave
        rw [cl (show i < 2 ^ 31 by omega), t3, size_c _ t1 t2 (by omega)]
      have e : f_X4_clear xr xt (nI C) lk ln lt ll lr (nI T) tn (nI i) = .inr (nI (cnt (upd tn i (-1)) (nI t) 14), xr &&& (f_X4_only (nI i) ^^^ (-1)), nI (C + 1), upd lk C 1, upd ln C (nI i), upd lt C xt, upd ll C (xt - lr i), upd tn i (-1)) := by
        unfold f_X4_clear
        rw [chk hi, c1]
        dsimp only
        rw [chg hC]
        dsimp only
        rw [ea]
        dsimp only
        rw [el]
      unfold f_L_clear
      rw [e]
    · rw [upd_at]
      by_cases c : k = i
      · rw [if_pos c]
        refine Or.inl ⟨?_, rfl⟩
        cases hc : bt (xr &&& (f_X4_only (nI i) ^^^ (-1))) k
        · rfl
        · exact absurd c ((cut k hk).mp hc).2
      · rw [if_neg c]
        rcases hTI k hk with ⟨a, b⟩ | ⟨a, b⟩
        · refine Or.inl ⟨?_, b⟩
          cases hc : bt (xr &&& (f_X4_only (nI i) ^^^ (-1))) k
          · rfl
          · rw [((cut k hk).mp hc).1] at a; cases a
        · exact Or.inr ⟨(cut k hk).mpr ⟨a, c⟩, b⟩
    · cases hc : bt (xr &&& (f_X4_only (nI i) ^^^ (-1))) i
      · rfl
      · exact absurd rfl ((cut i hi).mp hc).2
    · rw [upd_at, if_pos rfl]
