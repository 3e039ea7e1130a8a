/-! ===== raise and clear, as the law calls them ===== -/
theorem kinL {mn : AA} {i : Nat} (hi : i < 14) : ∀ (c j n : Nat) (v : Int32), j + c = 14 → c < n →
    p_X5_kin_L9 mn (nI i) n v (nI j) ∧ ∃ w, f_X5_kin_L9 mn (nI i) n v (nI j) = (w, nI 14) ∧ ∀ t, (bt w t = true ↔ bt v t = true ∨ (j ≤ t ∧ t < 14 ∧ bt (mn t) i = true)) := by
  intro c
  induction c with
  | zero =>
    intro j n v hj hn
    obtain ⟨n, rfl⟩ : ∃ k, n = k + 1 := ⟨n - 1, by omega⟩
    have e : j = 14 := by omega
    subst e
    refine ⟨?_, v, ?_, fun t => ⟨Or.inl, ?_⟩⟩
    · rw [p_X5_kin_L9]; exact ⟨fun _ => trivial, fun h => absurd y14 h⟩
    · rw [f_X5_kin_L9, if_pos y14]
    · rintro (h | ⟨h1, h2, _⟩)
      · exact h
      · omega
  | succ c ih =>
    intro j n v hj hn
    obtain ⟨n, rfl⟩ : ∃ k, n = k + 1 := ⟨n - 1, by omega⟩
    have hj14 : j < 14 := by omega
    obtain ⟨a1, w, a2, a3⟩ := ih (j + 1) n (v ||| (if f_X5_has (mn j) (nI i) = 0 then (0 : Int32) else (1 <<< (nI j &&& 31)))) (by omega) (by omega)
    refine ⟨?_, w, ?_, fun t => ?_⟩
    · rw [p_X5_kin_L9]
      refine ⟨fun h => absurd h (n14 hj14), fun _ => ⟨in14 hj14, ?_⟩⟩
      rw [cl (j := j) (by omega), nI_1]
      refine ⟨⟨fun _ => trivial, fun _ => trivial⟩, fun z hz => ?_⟩
      rw [← hz]
      exact a1
    · rw [f_X5_kin_L9, if_neg (n14 hj14), cl (j := j) (by omega), nI_1]
      exact a2
    · rw [a3 t, col_step hj14 (by omega) v t]
      constructor
      · rintro ((h | ⟨h1, h2⟩) | ⟨h1, h2, h3⟩)
        · exact Or.inl h
        · subst h1; exact Or.inr ⟨Nat.le_refl _, hj14, h2⟩
        · exact Or.inr ⟨by omega, h2, h3⟩
      · rintro (h | ⟨h1, h2, h3⟩)
        · exact Or.inl (Or.inl h)
        · rcases Nat.lt_or_ge j t with q | q
          · exact Or.inr ⟨q, h2, h3⟩
          · have e : t = j := by omega
            subst e
            exact Or.inl (Or.inr ⟨rfl, h3⟩)
theorem kin5 {gn gu gb ga mn mu : AA} (h : GI gn gu gb ga) (hs : SG gn gb mn mu) {i : Nat} (hi : i < 14) : p_X5_kin mu (nI i) ∧ f_X5_kin mu (nI i) = f_X1_below gb (nI i) ||| f_X1_above ga (nI i) := by
  obtain ⟨a1, w, a2, a3⟩ := kinL (mn := mu) hi 14 0 15 (mu i) rfl (by decide)
  rw [nI_0] at a1 a2
  have e : f_X5_kin mu (nI i) = w := by unfold f_X5_kin; rw [cl (by omega), a2]
  refine ⟨⟨in14 hi, ?_, fun _ _ _ => trivial⟩, ?_⟩
  · rw [cl (by omega)]; exact a1
  · rw [e, bel hi, abv hi]
    have hMu : M14 (mu i) := by rw [(hs i hi).2]; exact (h.2.2.2.2.1 i hi).1
    have hMw : M14 w := fun k hk => by
      cases hb : bt w k
      · rfl
      · rcases (a3 k).mp hb with q | ⟨_, q, _⟩
        · rw [hMu k hk] at q; cases q
        · omega
    refine M14.extT hMw ((h.2.2.2.2.1 i hi).1.or (h.2.2.2.2.1 i hi).2) fun k hk => ?_
    have x1 : bt (gb k) i = true ↔ Rc (NR gn) k i := (h.2.2.2.2.2 k i hk hi).1
    have x2 : bt (ga i) k = true ↔ Rc (NR gn) k i := (h.2.2.2.2.2 k i hk hi).2
    rw [a3 k, b_or, Bool.or_eq_true, (hs i hi).2, (hs k hk).2, x1, x2]
    exact or_congr Iff.rfl ⟨fun q => q.2.2, fun q => ⟨Nat.zero_le _, hk, q⟩⟩
theorem join_all {gn gu gb ga mn mu tn tt mt md mz mi : AA} {r : Int32} {T i : Nat} (hG : GI gn gu gb ga) (hS : SG gn gb mn mu) (hr : M14 r) (hT : T < 300) (hK : TK T tn tt r mt md mz mi) (hi : i < 14) (hb : bt r i = false) :
    p_X3_join (nI T) tn tt (nI i) ((f_X1_below gb (nI i) ||| f_X1_above ga (nI i)) &&& r) ∧ p_X5_raise_L62 r mu mt (nI i) 15 (-1) 0 ∧ ∃ (v4 x : Int32) (m T' : Nat) (mdj mzj : AA) (y : Int32) (md1 mz1 mi1 : AA) (z : Int32) (mt1 tn' tt' : AA), f_X5_raise_L62 r mu mt (nI i) 15 (-1) 0 = (v4, x) ∧
    (if 0 ≤ v4 then (v4, nI T, md, mz) else (nI T + 1, nI T + 1, upd md (nI T + 1).toNatClampNeg 0, upd mz (nI T + 1).toNatClampNeg 1)) = (nI m, nI T', mdj, mzj) ∧ m ≤ 300 ∧ T' ≤ T + 1 ∧
    p_X5_raise_L158 r mu (nI i) (nI m) (nI T') 302 (nI m + 1) mdj mzj mi ∧ f_X5_raise_L158 r mu (nI i) (nI m) (nI T') 302 (nI m + 1) mdj mzj mi = (y, md1, mz1, mi1) ∧
    p_X5_raise_L254 (nI i) (nI m) md1 15 0 mt ∧ f_X5_raise_L254 (nI i) (nI m) md1 15 0 mt = (z, mt1) ∧
    f_X3_join (nI T) tn tt (nI i) ((f_X1_below gb (nI i) ||| f_X1_above ga (nI i)) &&& r) = (nI m, nI T', tn', tt') ∧ TK T' tn' tt' (r ||| f_X4_only (nI i)) mt1 (upd md1 m (md1 m ||| f_X4_only (nI i))) mz1 mi1 := by
  obtain ⟨hN, hD, hSz, hZ⟩ := id hK
  have hKe : f_X5_kin mu (nI i) &&& r = (f_X1_below gb (nI i) ||| f_X1_above ga (nI i)) &&& r := by rw [(kin5 hG hS hi).2]
  generalize hk : (f_X1_below gb (nI i) ||| f_X1_above ga (nI i)) &&& r = K at hKe ⊢
  have hMK : M14 K := by rw [← hk]; exact hr.andR _
  have hKr : ∀ k, k < 14 → bt K k = true → bt r k = true := fun k _ q => by
    rw [← hk, b_and, Bool.and_eq_true] at q
    exact q.2
  have hKn : ∀ k, k < 14 → bt K k = true → ∃ t, 1 ≤ t ∧ t ≤ T ∧ tn k = nI t ∧ mt k = nI t := fun k k1 k2 => by
    rcases hN k k1 with ⟨b, -⟩ | ⟨-, q⟩
    · rw [hKr k k1 k2] at b; cases b
    · exact q
  obtain ⟨q1, q2, v7, v4, e7, e4, hMn⟩ := min_L (mr := r) (mu := mu) (a1 := nI i) (by omega) hKe hKn 14 0 15 (nI T) (-1) rfl (by decide) (Or.inl ⟨fun k hk => absurd hk (Nat.not_lt_zero _), rfl, rfl⟩)
  rw [nI_0] at q1 q2 e7 e4
  by_cases hz : K = 0
  · -- no raised kin
    have e4' : v4 = -1 := by
      rcases hMn with ⟨_, _, c⟩ | ⟨m, _, _, _, _, ⟨k, _, k2, _⟩, _⟩
      · exact c
      · rw [hz, b_0] at k2; cases k2
    have n4 : ¬ 0 ≤ v4 := by rw [e4']; decide
    have l : nI (T + 1) < nI (T + 1 + 1) := nI_lt (by omega) (by omega)
    obtain ⟨m1, mt1, m2, m3⟩ := raise_L254 (i := i) (m := T + 1) (md := upd md (T + 1) 0) hi (by omega) 14 0 15 mt rfl (by decide)
    rw [nI_0] at m1 m2
    have m3' : ∀ k, k < 14 → mt1 k = if bt (0 ||| f_X4_only (nI i)) k = true then nI (T + 1) else mt k := fun k hk => by
      have := m3 k hk
      rw [upd_at, if_pos rfl] at this
      rw [this]
      by_cases c : bt (0 ||| f_X4_only (nI i)) k = true
      · rw [if_pos c, if_pos ⟨Nat.zero_le _, c⟩]
      · rw [if_neg c, if_neg (fun q => c q.2)]
    have hTK := join_new hT hK hi hb m3'
    refine ⟨?_, q2, v4, nI 14, T + 1, T + 1, upd md (T + 1) 0, upd mz (T + 1) 1, nI (T + 1 + 1), upd md (T + 1) 0, upd mz (T + 1) 1, mi, nI 14, mt1, upd tn i (nI (T + 1)), tt, e4, ?_, by omega, Nat.le_refl _, ?_, ?_, m1, m2, ?_, ?_⟩
    · exact ⟨fun _ => ⟨in14 hi, in14 hi, trivial⟩, fun q => absurd hz q⟩
    · rw [if_neg n4, nI_1, cl (by omega)]
    · rw [nI_1, p_X5_raise_L158]; exact ⟨fun _ => trivial, fun q => absurd l q⟩
    · rw [nI_1, f_X5_raise_L158, if_pos l]
    · unfold f_X3_join
      rw [if_pos hz, nI_1, cl (j := i) (by omega), upd_at, if_pos rfl]
    · have eu : upd (upd md (T + 1) 0) (T + 1) (upd md (T + 1) 0 (T + 1) ||| f_X4_only (nI i)) = upd (upd md (T + 1) 0) (T + 1) (0 ||| f_X4_only (nI i)) := by
        have : upd md (T + 1) 0 (T + 1) = 0 := by rw [upd_at, if_pos rfl]
        rw [this]
      rw [eu]
      exact hTK
  · -- raised kin
    obtain ⟨kk, kk1, kk2⟩ := (nz_iff hMK).mp hz
    rcases hMn with ⟨a, _, _⟩ | ⟨m, m1, m2, m3, m4, ⟨k, k1, k2, k3⟩, m6⟩
    · rw [a kk kk1] at kk2; cases kk2
    have p4 : 0 ≤ v4 := by rw [m4]; exact nI_pos' (by omega)
    obtain ⟨u1, tn1, tt1, u2, u3⟩ := unite_L40 (T := T) (K := K) (tn0 := tn) (tt0 := tt) (m := m) (by omega) m1 m2 (fun k a b => by obtain ⟨t, t1, t2, t3, _⟩ := hKn k a b; exact ⟨t, t1, t2, t3⟩) 14 0 15 tn tt rfl (by decide) ⟨fun k _ => ⟨fun ⟨t, ⟨_, _, j, j1, _⟩, _⟩ => absurd j1 (Nat.not_lt_zero _), fun _ => rfl⟩, fun _ _ => rfl, fun t _ _ => ⟨fun ⟨_, _, j, j1, _⟩ => absurd j1 (Nat.not_lt_zero _), fun _ => rfl⟩⟩
    rw [nI_0] at u1 u2
    obtain ⟨w1, y, md1, mz1, mi1, w2, w3⟩ := raise_L158 (T := T) (K := K) (tn0 := tn) (md0 := md) (mr := r) (mu := mu) (a1 := nI i) (mz0 := mz) (mi0 := mi) (m := m) (by omega) m1 m2 hD (fun t t1 t2 q => by
      rcases hZ t t1 t2 with ⟨a, _, _⟩ | ⟨_, b, _⟩ | ⟨_, b, _⟩
      · exact a
      · exact absurd b q
      · exact absurd b q) hKe (T - m) (m + 1) 302 md mz mi (Nat.lt_succ_self _) (by omega) (by omega) ⟨fun t _ _ => ⟨fun q => absurd q.1 (by have := q.2.1; omega), fun _ => ⟨fun _ => rfl, rfl, rfl⟩⟩, fun j => ⟨Or.inl, fun q => q.resolve_right (fun ⟨t, t1, _⟩ => by have := t1.1; have := t1.2.1; omega)⟩⟩
    obtain ⟨x1, mt1, x2, x3⟩ := raise_L254 (i := i) (m := m) (md := md1) hi (by omega) 14 0 15 mt rfl (by decide)
    rw [nI_0] at x1 x2
    have x3' : ∀ k, k < 14 → mt1 k = if bt (md1 m ||| f_X4_only (nI i)) k = true then nI m else mt k := fun k hk => by
      rw [x3 k hk]
      by_cases c : bt (md1 m ||| f_X4_only (nI i)) k = true
      · rw [if_pos c, if_pos ⟨Nat.zero_le _, c⟩]
      · rw [if_neg c, if_neg (fun q => c q.2)]
    have hTK := join_kin (by omega) hK hi hb hKr m1 m2 ⟨k, k1, k2, k3⟩ m6 u3 w3 x3'
    refine ⟨?_, q2, v4, nI 14, m, T, md, mz, y, md1, mz1, mi1, nI 14, mt1, upd tn1 i (nI m), tt1, e4, ?_, by omega, Nat.le_succ _, ?_, ?_, x1, x2, ?_, hTK⟩
    · refine ⟨fun q => absurd q hz, fun _ => ⟨⟨q1, fun a b hab => ?_⟩, fun _ _ _ _ => ⟨in14 hi, in14 hi, trivial⟩⟩⟩
      rw [e7, m3] at hab
      cases hab
      exact ⟨u1, fun _ _ _ _ => trivial⟩
    · rw [if_pos p4, m4]
    · rw [nI_1]; exact w1
    · rw [nI_1]; exact w2
    · unfold f_X3_join f_X3_unite
      rw [if_neg hz, e7, m3]
      dsimp only
      rw [u2]
      dsimp only
      rw [cl (j := i) (by omega), upd_at, if_pos rfl]
/-- the outcome of a raise -/
def AgR (o : String ⊕ (Int32 × Int32 × Int32 × AA × AA × AA × AA × AA × Int32 × AA × AA)) (f : Int32 × Int32 × Int32 × Int32 × Int32 × AA × AA × AA × AA × AA × AA × AA × AA × AA) (r : Int32) (T C : Nat) (lr mt md mz mi lk ln lt ll : AA) : Prop :=
  (∃ E, o = .inl E ∧ f = (0, r, nI T, nI C, (if E = eIO then 1 else 2), lr, mt, md, mz, mi, lk, ln, lt, ll)) ∨ ∃ (v r' : Int32) (C' T' : Nat) (lk' ln' lt' ll' lr' tn' tt' mt' md' mz' mi' : AA), o = .inr (v, r', nI C', lk', ln', lt', ll', lr', nI T', tn', tt') ∧ f = (v, r', nI T', nI C', 0, lr', mt', md', mz', mi', lk', ln', lt', ll') ∧ M14 r' ∧ C' ≤ 300 ∧ T' ≤ C' ∧ TK T' tn' tt' r' mt' md' mz' mi'
theorem chg_c {C : Nat} (hC : C ≤ 300) (x : Int32) : f_X4_checkChange (nI C) x = if x = 0 then .inl eIS else if C < 300 then .inr () else .inl eIS := by
  unfold f_X4_checkChange f_X2_isFull
  dsimp only
  have k1 : ¬ (1 : Int32) = 0 := by decide
  by_cases c : x = 0
  · rw [if_pos c, if_pos c]
  · rw [if_neg c, if_neg c]
    by_cases d : C < 300
    · have l : nI C < 300 := nI_lt (b := 300) d (by decide)
      rw [if_pos l, if_pos rfl, if_pos d]
    · have l : ¬ nI C < 300 := nI_nlt (b := 300) (by omega) (by omega)
      rw [if_neg l, if_neg k1, if_neg d]
theorem le300 {C : Nat} (hC : C ≤ 300) : (300 : Int32) ≤ nI C ↔ ¬ C < 300 := by
  have := nI_leI (a := 300) (b := C) (by decide) (by omega)
  have e : nI 300 = (300 : Int32) := rfl
  rw [e] at this
  rw [this]
  omega
theorem three_r {A B C j : Int32} {p : Prop} [Decidable p] (h : (if A = 0 then (0 : Int32) else (if B = 0 then (if p then (0 : Int32) else (1 : Int32)) else (0 : Int32))) = j) (hj : ¬ j = 0) : ¬ A = 0 ∧ B = 0 ∧ ¬ p := by
  by_cases a : A = 0
  · rw [if_pos a] at h; exact absurd h.symm hj
  · rw [if_neg a] at h
    by_cases b : B = 0
    · rw [if_pos b] at h
      by_cases c : p
      · rw [if_pos c] at h; exact absurd h.symm hj
      · exact ⟨a, b, c⟩
    · rw [if_neg b] at h; exact absurd h.symm hj
theorem three_c {A B j : Int32} {p : Prop} [Decidable p] (h : (if A = 0 then (0 : Int32) else (if B = 0 then (0 : Int32) else (if p then (0 : Int32) else (1 : Int32)))) = j) (hj : ¬ j = 0) : ¬ A = 0 ∧ ¬ B = 0 ∧ ¬ p := by
  by_cases a : A = 0
  · rw [if_pos a] at h; exact absurd h.symm hj
  · rw [if_neg a] at h
    by_cases b : B = 0
    · rw [if_pos b] at h; exact absurd h.symm hj
    · rw [if_neg b] at h
      by_cases c : p
      · rw [if_pos c] at h; exact absurd h.symm hj
      · exact ⟨a, b, c⟩
theorem ag_raise {gn gu gb ga mn mu tn tt mt md mz mi lk ln lt ll lr : AA} {r t : Int32} {T C : Nat} (hG : GI gn gu gb ga) (hS : SG gn gb mn mu) (hr : M14 r) (hC : C ≤ 300) (hT : T ≤ C) (hK : TK T tn tt r mt md mz mi) (a : Int32) :
    p_X4_raise r t gb ga (nI C) lk ln lt ll lr (nI T) tn tt a ∧ p_X5_raise r (nI T) (nI C) t mu mt md mz mi lk ln lt ll a ∧ AgR (f_X4_raise r t gb ga (nI C) lk ln lt ll lr (nI T) tn tt a) (f_X5_raise r (nI T) (nI C) t mu lr mt md mz mi lk ln lt ll a) r T C lr mt md mz mi lk ln lt ll := by
  have k1 : ¬ (1 : Int32) = 0 := by decide
  refine ⟨fun q1 => ⟨⟨fun _ => trivial, fun _ => trivial⟩, fun j3 e3 q2 => ?_⟩, ⟨⟨fun _ => trivial, fun _ => ⟨fun _ => ⟨fun _ => trivial, fun _ => trivial⟩, fun _ => trivial⟩⟩, fun j2 e2 r7 u7 hg => ⟨fun _ => trivial, fun h7 => ?_⟩⟩, ?_⟩
  · obtain ⟨i, hi, rfl⟩ := chk_ok q1
    rw [chg_c hC] at q2
    have hb : bt r i = false := by
      cases hb : bt r i
      · rfl
      · have c0 : ¬ f_X4_has r (nI i) = 0 := fun q => by rw [(has4_0 r (by omega)).mp q] at hb; cases hb
        rw [if_neg c0] at e3
        rw [if_pos e3.symm] at q2
        cases q2
    have hC3 : C < 300 := by
      rcases Nat.lt_or_ge C 300 with z | z
      · exact z
      · rw [if_neg (show ¬ C < 300 by omega)] at q2
        by_cases z2 : j3 = 0
        · rw [if_pos z2] at q2; cases q2
        · rw [if_neg z2] at q2; cases q2
    have hj := (join_all hG hS hr (by omega) hK hi hb).1
    have hc3 := in300 hC3
    exact ⟨⟨in14 hi, ⟨hc3, hc3, hc3, hc3, trivial⟩, fun _ _ _ _ _ _ => trivial⟩, fun _ _ _ _ _ _ _ => ⟨⟨in14 hi, trivial⟩, ⟨in14 hi, trivial⟩, hj, fun _ _ _ _ _ => trivial⟩⟩
  · obtain ⟨⟨g1, g2⟩, -⟩ := goes_r hg h7
    obtain ⟨n1, n2, n3⟩ := three_r (C := 0) e2 g2
    obtain ⟨i, hi, rfl⟩ := isn_ok n1
    have hb : bt r i = false := (has5_0 r (by omega)).mp n2
    have hC3 : C < 300 := Classical.byContradiction fun q => n3 ((le300 hC).mpr q)
    have hc3 := in300 hC3
    obtain ⟨-, l1, v4, x, m, T', mdj, mzj, y, md1, mz1, mi1, z, mt1, tn', tt', e1, e2', hm, hT', l2, e3, l3, e4, e5, hK'⟩ := join_all (mu := mu) hG hS hr (by omega) hK hi hb
    refine ⟨(kin5 hG hS hi).1, l1, fun x1 x2 hx => ?_⟩
    rw [e1] at hx
    cases hx
    refine ⟨⟨fun _ => trivial, fun _ => ⟨?_, ?_, trivial⟩⟩, fun y1 y2 y3 y4 hy => ?_⟩
    · rw [nI_1]; exact in302 (by omega)
    · rw [nI_1]; exact in302 (by omega)
    · rw [e2'] at hy
      cases hy
      refine ⟨l2, fun z1 z2 z3 z4 hz => ?_⟩
      rw [e3] at hz
      cases hz
      refine ⟨in302 (by omega), in302 (by omega), l3, fun w1 w2 hw => ⟨in14 hi, ⟨hc3, hc3, hc3, hc3, trivial⟩, fun _ _ _ _ _ _ => trivial⟩⟩
  · rcases node_c a with ⟨i, hi, rfl, c1, c2⟩ | ⟨c1, c2⟩
    · cases hb : bt r i
      · have c0 : f_X4_has r (nI i) = 0 := (has4_0 r (by omega)).mpr hb
        have c5 : f_X5_has r (nI i) = 0 := (has5_0 r (by omega)).mpr hb
        by_cases hC3 : C < 300
        · obtain ⟨-, l1, v4, x, m, T', mdj, mzj, y, md1, mz1, mi1, z, mt1, tn', tt', e1, e2', hm, hT', l2, e3, l3, e4, e5, hK'⟩ := join_all (mu := mu) hG hS hr (by omega) hK hi hb
          have h4 : f_X4_raise r t gb ga (nI C) lk ln lt ll lr (nI T) tn tt (nI i) = .inr (nI m, r ||| f_X4_only (nI i), nI (C + 1), upd lk C 0, upd ln C (nI i), upd lt C t, upd ll C (-1), upd lr i t, nI T', tn', tt') := by
            unfold f_X4_raise
            rw [c1]
            dsimp only
            rw [chg_c hC, if_pos c0, if_neg k1, if_pos hC3]
            dsimp only [f_X2_addRaise, f_X2_add]
            rw [e5]
            dsimp only
            rw [nI_1, cl (j := C) (by omega), cl (j := i) (by omega)]
          have h5 := raise5_ok (mr := r) (mc := nI T) (me := nI C) (mw := t) (mu := mu) (ms := lr) (mt := mt) (md := md) (mz := mz) (mi := mi) (mk := lk) (mo := ln) (mj := lt) (ml := ll) (a1 := nI i) (j2 := 1) (r7 := 1) (u7_0 := 0) (by rw [c2, if_neg k1, if_pos c5, if_neg (fun q => (le300 hC).mp q hC3)]) (by rw [c2, goes_gen, if_neg k1, if_neg k1]) k1 e1 e2' e3 e4 rfl
          rw [one_eq, nI_1, cl (j := m) (by omega), cl (j := i) (by omega), cl (j := C) (by omega)] at h5
          rw [h4, h5]
          exact Or.inr ⟨nI m, r ||| f_X4_only (nI i), C + 1, T', upd lk C 0, upd ln C (nI i), upd lt C t, upd ll C (-1), upd lr i t, tn', tt', mt1, upd md1 m (md1 m ||| f_X4_only (nI i)), mz1, mi1, rfl, rfl, hr.or (only_M hi), by omega, by omega, hK'⟩
        · have h4 : f_X4_raise r t gb ga (nI C) lk ln lt ll lr (nI T) tn tt (nI i) = .inl eIS := by
            unfold f_X4_raise
            rw [c1]
            dsimp only
            rw [chg_c hC, if_pos c0, if_neg k1, if_neg hC3]
          have h5 := raise5_no (mr := r) (mc := nI T) (me := nI C) (mw := t) (mu := mu) (ms := lr) (mt := mt) (md := md) (mz := mz) (mi := mi) (mk := lk) (mo := ln) (mj := lt) (ml := ll) (a1 := nI i) (j2 := 0) (r7 := 0) (u7_0 := 2) (by rw [c2, if_neg k1, if_pos c5, if_pos ((le300 hC).mpr hC3)]) (by rw [c2, goes_gen, if_neg k1, if_pos rfl]) rfl
          rw [h4, h5]
          exact Or.inl ⟨eIS, rfl, by rw [if_neg eIS_ne]⟩
      · have c0 : ¬ f_X4_has r (nI i) = 0 := fun q => by rw [(has4_0 r (by omega)).mp q] at hb; cases hb
        have c5 : ¬ f_X5_has r (nI i) = 0 := fun q => by rw [(has5_0 r (by omega)).mp q] at hb; cases hb
        have h4 : f_X4_raise r t gb ga (nI C) lk ln lt ll lr (nI T) tn tt (nI i) = .inl eIS := by
          unfold f_X4_raise
          rw [c1]
          dsimp only
          rw [chg_c hC, if_neg c0, if_pos rfl]
        have h5 := raise5_no (mr := r) (mc := nI T) (me := nI C) (mw := t) (mu := mu) (ms := lr) (mt := mt) (md := md) (mz := mz) (mi := mi) (mk := lk) (mo := ln) (mj := lt) (ml := ll) (a1 := nI i) (j2 := 0) (r7 := 0) (u7_0 := 2) (by rw [c2, if_neg k1, if_neg c5]) (by rw [c2, goes_gen, if_neg k1, if_pos rfl]) rfl
        rw [h4, h5]
        exact Or.inl ⟨eIS, rfl, by rw [if_neg eIS_ne]⟩
    · have h4 : f_X4_raise r t gb ga (nI C) lk ln lt ll lr (nI T) tn tt a = .inl eIO := by
        unfold f_X4_raise
        rw [c1]
      have h5 := raise5_no (mr := r) (mc := nI T) (me := nI C) (mw := t) (mu := mu) (ms := lr) (mt := mt) (md := md) (mz := mz) (mi := mi) (mk := lk) (mo := ln) (mj := lt) (ml := ll) (a1 := a) (j2 := 0) (r7 := 0) (u7_0 := 1) (by rw [c2, if_pos rfl]) (by rw [c2, goes_gen, if_pos rfl]) rfl
      rw [h4, h5]
      exact Or.inl ⟨eIO, rfl, by rw [if_pos rfl]⟩
/-- the outcome of a clear -/
def AgC (o : String ⊕ (Int32 × Int32 × Int32 × AA × AA × AA × AA × AA)) (f : Int32 × Int32 × Int32 × Int32 × AA × AA × AA × AA × AA × AA) (r : Int32) (T C : Nat) (tt mt md mz mi lk ln lt ll : AA) : Prop :=
  (∃ E, o = .inl E ∧ f = (0, r, nI C, (if E = eIO then 1 else 2), md, mz, lk, ln, lt, ll)) ∨ ∃ (v r' : Int32) (C' : Nat) (lk' ln' lt' ll' tn' md' mz' : AA), o = .inr (v, r', nI C', lk', ln', lt', ll', tn') ∧ f = (v, r', nI C', 0, md', mz', lk', ln', lt', ll') ∧ M14 r' ∧ C' ≤ 300 ∧ T ≤ C' ∧ TK T tn' tt r' mt md' mz' mi
theorem ag_clear {tn tt mt md mz mi lk ln lt ll lr : AA} {r t : Int32} {T C : Nat} (hr : M14 r) (hC : C ≤ 300) (hT : T ≤ C) (hK : TK T tn tt r mt md mz mi) (a : Int32) :
    p_X4_clear r t (nI C) lk ln lt ll lr (nI T) tn a ∧ p_X5_clear r (nI C) t lr mt md lk ln lt ll a ∧ AgC (f_X4_clear r t (nI C) lk ln lt ll lr (nI T) tn a) (f_X5_clear r (nI C) t lr mt md mz lk ln lt ll a) r T C tt mt md mz mi lk ln lt ll := by
  have k1 : ¬ (1 : Int32) = 0 := by decide
  have ok : ∀ i, i < 14 → bt r i = true → vp_in (mt i) 302 := fun i hi hb => by
    obtain ⟨s, s1, s2, s3, s4, -⟩ := leave_spec (by omega) hK hi hb
    rw [s4]
    exact in302 (by omega)
  refine ⟨fun q1 q2 => ?_, ⟨⟨fun _ => trivial, fun _ => ⟨fun _ => trivial, fun _ => ⟨fun _ => trivial, fun _ => trivial⟩⟩⟩, fun j2 e2 r7 u7 hg => ⟨fun _ => trivial, fun h7 => ?_⟩⟩, ?_⟩
  · obtain ⟨i, hi, rfl⟩ := chk_ok q1
    rw [chg_c hC] at q2
    have hb : bt r i = true := by
      cases hb : bt r i
      · rw [if_pos ((has4_0 r (by omega)).mpr hb)] at q2; cases q2
      · rfl
    have c0 : ¬ f_X4_has r (nI i) = 0 := fun q => by rw [(has4_0 r (by omega)).mp q] at hb; cases hb
    rw [if_neg c0] at q2
    have hC3 : C < 300 := by
      rcases Nat.lt_or_ge C 300 with z | z
      · exact z
      · rw [if_neg (show ¬ C < 300 by omega)] at q2; cases q2
    have hc3 := in300 hC3
    exact ⟨⟨in14 hi, ⟨hc3, hc3, hc3, hc3, trivial⟩, fun _ _ _ _ _ _ => trivial⟩, fun _ _ _ _ _ _ => ⟨⟨in14 hi, in14 hi, size_p _ _ _, trivial⟩, fun _ _ _ => trivial⟩⟩
  · obtain ⟨⟨g1, g2⟩, -⟩ := goes_r hg h7
    obtain ⟨n1, n2, n3⟩ := three_c e2 g2
    obtain ⟨i, hi, rfl⟩ := isn_ok n1
    have hb : bt r i = true := by
      cases hb : bt r i
      · exact absurd ((has5_0 r (by omega)).mpr hb) n2
      · rfl
    have hC3 : C < 300 := Classical.byContradiction fun q => n3 ((le300 hC).mpr q)
    have hc3 := in300 hC3
    have ht : vp_in (mt (nI i).toNatClampNeg) 302 := by rw [cl (by omega)]; exact ok i hi hb
    exact ⟨in14 hi, ht, ht, ht, ⟨fun _ => trivial, fun _ => trivial⟩, fun _ _ => ⟨ht, in14 hi, ⟨hc3, hc3, hc3, hc3, trivial⟩, fun _ _ _ _ _ _ => ⟨ht, (count5 _).1, trivial⟩⟩⟩
  · rcases node_c a with ⟨i, hi, rfl, c1, c2⟩ | ⟨c1, c2⟩
    · cases hb : bt r i
      · have c0 : f_X4_has r (nI i) = 0 := (has4_0 r (by omega)).mpr hb
        have c5 : f_X5_has r (nI i) = 0 := (has5_0 r (by omega)).mpr hb
        have h4 : f_X4_clear r t (nI C) lk ln lt ll lr (nI T) tn (nI i) = .inl eIS := by
          unfold f_X4_clear
          rw [c1]
          dsimp only
          rw [chg_c hC, if_pos c0]
        have h5 := clear5_no (mr := r) (me := nI C) (mw := t) (ms := lr) (mt := mt) (md := md) (mz := mz) (mk := lk) (mo := ln) (mj := lt) (ml := ll) (a1 := nI i) (j2 := 0) (r7 := 0) (u7_0 := 2) (by rw [c2, if_neg k1, if_pos c5]) (by rw [c2, goes_gen, if_neg k1, if_pos rfl]) rfl
        rw [h4, h5]
        exact Or.inl ⟨eIS, rfl, by rw [if_neg eIS_ne]⟩
      · have c0 : ¬ f_X4_has r (nI i) = 0 := fun q => by rw [(has4_0 r (by omega)).mp q] at hb; cases hb
        have c5 : ¬ f_X5_has r (nI i) = 0 := fun q => by rw [(has5_0 r (by omega)).mp q] at hb; cases hb
        by_cases hC3 : C < 300
        · obtain ⟨s, s1, s2, s3, s4, s5, s6⟩ := leave_spec (by omega) hK hi hb
          have e2 : upd md s (md s &&& (f_X4_only (nI i) ^^^ (-1))) s = md s &&& (f_X4_only (nI i) ^^^ (-1)) := by rw [upd_at, if_pos rfl]
          have h4 : f_X4_clear r t (nI C) lk ln lt ll lr (nI T) tn (nI i) = .inr (f_X3_sizeOf (nI T) (upd tn i (-1)) (nI s), r &&& (f_X4_only (nI i) ^^^ (-1)), nI (C + 1), upd lk C 1, upd ln C (nI i), upd lt C t, upd ll C (t - lr i), upd tn i (-1)) := by
            unfold f_X4_clear
            rw [c1]
            dsimp only
            rw [chg_c hC, if_neg c0, if_pos hC3]
            dsimp only [f_X2_addClear, f_X2_add, f_X3_leave]
            rw [nI_1, cl (j := C) (by omega), cl (j := i) (by omega), s3]
          have h5 := clear5_ok (mr := r) (me := nI C) (mw := t) (ms := lr) (mt := mt) (md := md) (mz := mz) (mk := lk) (mo := ln) (mj := lt) (ml := ll) (a1 := nI i) (j2 := 1) (r7 := 1) (u7_0 := 0) (by rw [c2, if_neg k1, if_neg c5, if_neg (fun q => (le300 hC).mp q hC3)]) (by rw [c2, goes_gen, if_neg k1, if_neg k1]) k1 rfl rfl
          rw [one_eq, nI_1, cl (j := C) (by omega), cl (j := i) (by omega), s4, cl (j := s) (by omega), e2, (count5 _).2, ← s5] at h5
          rw [h4, h5]
          exact Or.inr ⟨f_X3_sizeOf (nI T) (upd tn i (-1)) (nI s), r &&& (f_X4_only (nI i) ^^^ (-1)), C + 1, upd lk C 1, upd ln C (nI i), upd lt C t, upd ll C (t - lr i), upd tn i (-1), _, _, rfl, rfl, hr.and _, by omega, by omega, s6⟩
        · have h4 : f_X4_clear r t (nI C) lk ln lt ll lr (nI T) tn (nI i) = .inl eIS := by
            unfold f_X4_clear
            rw [c1]
            dsimp only
            rw [chg_c hC, if_neg c0, if_neg hC3]
          have h5 := clear5_no (mr := r) (me := nI C) (mw := t) (ms := lr) (mt := mt) (md := md) (mz := mz) (mk := lk) (mo := ln) (mj := lt) (ml := ll) (a1 := nI i) (j2 := 0) (r7 := 0) (u7_0 := 2) (by rw [c2, if_neg k1, if_neg c5, if_pos ((le300 hC).mpr hC3)]) (by rw [c2, goes_gen, if_neg k1, if_pos rfl]) rfl
          rw [h4, h5]
          exact Or.inl ⟨eIS, rfl, by rw [if_neg eIS_ne]⟩
    · have h4 : f_X4_clear r t (nI C) lk ln lt ll lr (nI T) tn a = .inl eIO := by
        unfold f_X4_clear
        rw [c1]
      have h5 := clear5_no (mr := r) (me := nI C) (mw := t) (ms := lr) (mt := mt) (md := md) (mz := mz) (mk := lk) (mo := ln) (mj := lt) (ml := ll) (a1 := a) (j2 := 0) (r7 := 0) (u7_0 := 1) (by rw [c2, if_pos rfl]) (by rw [c2, goes_gen, if_pos rfl]) rfl
      rw [h4, h5]
      exact Or.inl ⟨eIO, rfl, by rw [if_pos rfl]⟩
