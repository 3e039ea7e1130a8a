/-! ===== the reference's merge, and both together ===== -/
def Hit (K : Int32) (tn0 : AA) (t : Nat) : Prop := ∃ k, k < 14 ∧ bt K k = true ∧ tn0 k = nI t
def Qt (T m : Nat) (K : Int32) (tn0 : AA) (j t : Nat) : Prop := m < t ∧ t < j ∧ t ≤ T ∧ Hit K tn0 t
def MR (Q : Nat → Prop) (T m : Nat) (md0 mz0 mi0 md mz mi : AA) : Prop := (∀ t, 1 ≤ t → t ≤ T → (Q t → md t = 0 ∧ mz t = 3 ∧ mi t = nI m) ∧ (¬ Q t → (¬ t = m → md t = md0 t) ∧ mz t = mz0 t ∧ mi t = mi0 t)) ∧ ∀ i, bt (md m) i = true ↔ bt (md0 m) i = true ∨ ∃ t, Q t ∧ bt (md0 t) i = true
theorem MR.cong {P P' : Nat → Prop} (h : ∀ t, P t ↔ P' t) {T m : Nat} {md0 mz0 mi0 md mz mi : AA} (q : MR P T m md0 mz0 mi0 md mz mi) : MR P' T m md0 mz0 mi0 md mz mi := by
  have e : P = P' := funext fun t => propext (h t)
  rw [← e]
  exact q
theorem MR.step {Q : Nat → Prop} {T m t : Nat} {md0 mz0 mi0 md mz mi : AA} (ht1 : 1 ≤ t) (htT : t ≤ T) (htm : ¬ t = m) (hQ : ¬ Q t) (hQm : ¬ Q m) (h : MR Q T m md0 mz0 mi0 md mz mi) : MR (fun s => Q s ∨ s = t) T m md0 mz0 mi0 (upd (upd md m (md m ||| md t)) t 0) (upd mz t 3) (upd mi t (nI m)) := by
  have hmt : md t = md0 t := ((h.1 t ht1 htT).2 hQ).1 htm
  refine ⟨fun s s1 s2 => ?_, fun i => ?_⟩
  · obtain ⟨h1, h2⟩ := h.1 s s1 s2
    rw [upd_at, upd_at, upd_at, upd_at]
    by_cases e : s = t
    · rw [if_pos e, if_pos e, if_pos e]
      exact ⟨fun _ => ⟨rfl, rfl, rfl⟩, fun q => absurd (Or.inr e) q⟩
    · rw [if_neg e, if_neg e, if_neg e]
      by_cases e2 : s = m
      · refine ⟨fun q => ?_, fun q => ⟨fun z => absurd e2 z, (h2 (fun z => q (Or.inl z))).2⟩⟩
        have := q.resolve_right e
        rw [e2] at this
        exact absurd this hQm
      · rw [if_neg e2]
        exact ⟨fun q => h1 (q.resolve_right e), fun q => h2 (fun z => q (Or.inl z))⟩
  · rw [upd_at, if_neg (fun q => htm q.symm), upd_at, if_pos rfl, b_or, Bool.or_eq_true, h.2 i, hmt]
    constructor
    · rintro ((a | ⟨s, a, b⟩) | a)
      · exact Or.inl a
      · exact Or.inr ⟨s, Or.inl a, b⟩
      · exact Or.inr ⟨t, Or.inr rfl, a⟩
    · rintro (a | ⟨s, a | a, b⟩)
      · exact Or.inl (Or.inl a)
      · exact Or.inl (Or.inr ⟨s, a, b⟩)
      · rw [a] at b; exact Or.inr b
theorem raise_L158 {T m : Nat} {K mr a1 : Int32} {mu tn0 md0 mz0 mi0 : AA} (hT : T ≤ 300) (hm1 : 1 ≤ m) (hmT : m ≤ T) (hD : TD T tn0 md0) (hZ : ∀ t, 1 ≤ t → t ≤ T → ¬ md0 t = 0 → mz0 t = 1) (hKe : f_X5_kin mu a1 &&& mr = K) : ∀ (r j n : Nat) (md mz mi : AA), m < j → j + r = T + 1 → r < n → MR (Qt T m K tn0 j) T m md0 mz0 mi0 md mz mi →
    p_X5_raise_L158 mr mu a1 (nI m) (nI T) n (nI j) md mz mi ∧ ∃ y md' mz' mi', f_X5_raise_L158 mr mu a1 (nI m) (nI T) n (nI j) md mz mi = (y, md', mz', mi') ∧ MR (Qt T m K tn0 (T + 1)) T m md0 mz0 mi0 md' mz' mi' := by
  intro r
  induction r with
  | zero =>
    intro j n md mz mi hmj hj hn h
    obtain ⟨n, rfl⟩ : ∃ k, n = k + 1 := ⟨n - 1, by omega⟩
    have e : j = T + 1 := by omega
    have l : nI T < nI j := nI_lt (by omega) (by omega)
    rw [e] at h
    refine ⟨?_, nI j, md, mz, mi, ?_, h⟩
    · rw [p_X5_raise_L158]; exact ⟨fun _ => trivial, fun q => absurd l q⟩
    · rw [f_X5_raise_L158, if_pos l]
  | succ r ih =>
    intro j n md mz mi hmj hj hn h
    obtain ⟨n, rfl⟩ : ∃ k, n = k + 1 := ⟨n - 1, by omega⟩
    have hjT : j ≤ T := by omega
    have l : ¬ nI T < nI j := nI_nlt hjT (by omega)
    have i1 := in302 (j := j) (by omega)
    have i2 := in302 (j := m) (by omega)
    have hQ : ¬ Qt T m K tn0 j j := fun q => absurd q.2.1 (Nat.lt_irrefl _)
    have hQm : ¬ Qt T m K tn0 j m := fun q => absurd q.1 (Nat.lt_irrefl _)
    obtain ⟨u1, u2, -⟩ := (h.1 j (by omega) hjT).2 hQ
    have u1 := u1 (by omega)
    have hd := hD j (by omega) hjT
    by_cases H : Hit K tn0 j
    · obtain ⟨k, k1, k2, k3⟩ := id H
      have hbk := (hd.2 k k1).mpr k3
      have n0 : ¬ md0 j = 0 := fun q => by rw [q, b_0] at hbk; cases hbk
      have z1 : mz j = 1 := by rw [u2]; exact hZ j (by omega) hjT n0
      have z2 : ¬ md j &&& K = 0 := fun q => by
        have : bt (md j &&& K) k = true := by rw [b_and, u1, hbk, k2]; rfl
        rw [q, b_0] at this
        cases this
      have hst : MR (Qt T m K tn0 (j + 1)) T m md0 mz0 mi0 (upd (upd md m (md m ||| md j)) j 0) (upd mz j 3) (upd mi j (nI m)) := (h.step (by omega) hjT (by omega) hQ hQm).cong fun s => by
        constructor
        · rintro (⟨a, b, c, d⟩ | e)
          · exact ⟨a, by omega, c, d⟩
          · rw [e]; exact ⟨hmj, Nat.lt_succ_self _, hjT, H⟩
        · rintro ⟨a, b, c, d⟩
          rcases Nat.lt_or_ge s j with q | q
          · exact Or.inl ⟨a, q, c, d⟩
          · exact Or.inr (by omega)
      obtain ⟨a1', y, md', mz', mi', a2, a3⟩ := ih (j + 1) n _ _ _ (by omega) (by omega) (by omega) hst
      refine ⟨?_, y, md', mz', mi', ?_, a3⟩
      · rw [p_X5_raise_L158, hKe, cl (j := j) (by omega), cl (j := m) (by omega), nI_1]
        exact ⟨fun q => absurd q l, fun _ => ⟨i1, fun _ => ⟨i1, fun q => absurd q z2, fun _ => ⟨i2, i1, i2, i1, i1, i1, a1'⟩⟩, fun q => absurd z1 q⟩⟩
      · rw [f_X5_raise_L158, if_neg l, hKe, cl (j := j) (by omega), cl (j := m) (by omega), if_pos z1, if_neg z2, nI_1]
        exact a2
    · have z2 : md j &&& K = 0 := by
        rw [u1]
        refine (z_iff (hd.1.and K)).mpr fun k hk => ?_
        cases hb : bt (md0 j &&& K) k
        · rfl
        · rw [b_and, Bool.and_eq_true] at hb
          exact absurd ⟨k, hk, hb.2, (hd.2 k hk).mp hb.1⟩ H
      have hst : MR (Qt T m K tn0 (j + 1)) T m md0 mz0 mi0 md mz mi := h.cong fun s => by
        constructor
        · rintro ⟨a, b, c, d⟩; exact ⟨a, by omega, c, d⟩
        · rintro ⟨a, b, c, d⟩
          rcases Nat.lt_or_ge s j with q | q
          · exact ⟨a, q, c, d⟩
          · rw [show s = j by omega] at d; exact absurd d H
      obtain ⟨a1', y, md', mz', mi', a2, a3⟩ := ih (j + 1) n md mz mi (by omega) (by omega) (by omega) hst
      refine ⟨?_, y, md', mz', mi', ?_, a3⟩
      · rw [p_X5_raise_L158, hKe, cl (j := j) (by omega), nI_1]
        exact ⟨fun q => absurd q l, fun _ => ⟨i1, fun _ => ⟨i1, fun _ => a1', fun q => absurd z2 q⟩, fun _ => a1'⟩⟩
      · rw [f_X5_raise_L158, if_neg l, hKe, cl (j := j) (by omega), nI_1]
        by_cases z1 : mz j = 1
        · rw [if_pos z1, if_pos z2]; exact a2
        · rw [if_neg z1]; exact a2
theorem raise_L254 {i m : Nat} {md : AA} (hi : i < 14) (hm : m ≤ 300) : ∀ (r j n : Nat) (mt : AA), j + r = 14 → r < n → p_X5_raise_L254 (nI i) (nI m) md n (nI j) mt ∧ ∃ mt', f_X5_raise_L254 (nI i) (nI m) md n (nI j) mt = (nI 14, mt') ∧ ∀ k, k < 14 → mt' k = if j ≤ k ∧ bt (md m ||| f_X4_only (nI i)) k = true then nI m else mt k := by
  intro r
  induction r with
  | zero =>
    intro j n mt hj hn
    obtain ⟨n, rfl⟩ : ∃ k, n = k + 1 := ⟨n - 1, by omega⟩
    have e : j = 14 := by omega
    subst e
    refine ⟨?_, mt, ?_, fun k hk => by rw [if_neg (fun q => by omega)]⟩
    · rw [p_X5_raise_L254]; exact ⟨fun _ => trivial, fun q => absurd y14 q⟩
    · rw [f_X5_raise_L254, if_pos y14]
  | succ r ih =>
    intro j n mt hj hn
    obtain ⟨n, rfl⟩ : ∃ k, n = k + 1 := ⟨n - 1, by omega⟩
    have hj14 : j < 14 := by omega
    have l := n14 hj14
    have eX : upd md m (md m ||| (1 <<< (nI i &&& 31))) m = md m ||| f_X4_only (nI i) := by rw [upd_at, if_pos rfl, one_eq]
    have h5 := has5_0 (md m ||| f_X4_only (nI i)) (n := j) (by omega)
    obtain ⟨a1, mt', a2, a3⟩ := ih (j + 1) n (upd mt j (if f_X5_has (md m ||| f_X4_only (nI i)) (nI j) = 0 then mt j else nI m)) (by omega) (by omega)
    refine ⟨?_, mt', ?_, fun k hk => ?_⟩
    · rw [p_X5_raise_L254, cl (j := m) (by omega), cl (j := j) (by omega), eX, nI_1]
      refine ⟨fun q => absurd q l, fun _ => ⟨in302 (by omega), ⟨fun _ => ⟨in14 hj14, trivial⟩, fun _ => trivial⟩, fun y hy => ⟨in14 hj14, ?_⟩⟩⟩
      rw [← hy]
      exact a1
    · rw [f_X5_raise_L254, if_neg l, cl (j := m) (by omega), cl (j := j) (by omega), eX, nI_1]
      exact a2
    · rw [a3 k hk, upd_at]
      by_cases e : k = j
      · subst e
        rw [if_pos rfl, if_neg (fun q => by omega)]
        cases hb : bt (md m ||| f_X4_only (nI i)) k
        · rw [if_pos (h5.mpr hb), if_neg (fun q => Bool.noConfusion q.2)]
        · rw [if_neg (fun q => by rw [h5.mp q] at hb; cases hb), if_pos ⟨Nat.le_refl _, rfl⟩]
      · rw [if_neg e]
        by_cases w : j ≤ k ∧ bt (md m ||| f_X4_only (nI i)) k = true
        · rw [if_pos w, if_pos ⟨by omega, w.2⟩]
        · rw [if_neg w, if_neg (fun q => w ⟨by omega, q.2⟩)]
/-- a node with raised kin: its tickets go into the oldest of them -/
theorem join_kin {T m : Nat} {tn tt mt md mz mi tn' tt' md' mz' mi' mt' : AA} {r K : Int32} {i : Nat} (hT : T ≤ 300) (h : TK T tn tt r mt md mz mi) (hi : i < 14) (hr : bt r i = false) (hKr : ∀ k, k < 14 → bt K k = true → bt r k = true) (hm1 : 1 ≤ m) (hmT : m ≤ T) (hin : ∃ k, k < 14 ∧ bt K k = true ∧ tn k = nI m) (hlow : ∀ k t, k < 14 → bt K k = true → t ≤ T → tn k = nI t → m ≤ t)
    (hG : MG (Pj T m K tn 14) T m tn tt tn' tt') (hR : MR (Qt T m K tn (T + 1)) T m md mz mi md' mz' mi') (hM : ∀ k, k < 14 → mt' k = if bt (md' m ||| f_X4_only (nI i)) k = true then nI m else mt k) :
    TK T (upd tn' i (nI m)) tt' (r ||| f_X4_only (nI i)) mt' (upd md' m (md' m ||| f_X4_only (nI i))) mz' mi' := by
  classical
  obtain ⟨hN, hD, hS, hZ⟩ := id h
  have PQ : ∀ t, Pj T m K tn 14 t ↔ Qt T m K tn (T + 1) t := fun t => by
    constructor
    · rintro ⟨a, ⟨b1, b2⟩, k, k1, k2, k3⟩
      have := hlow k t k1 k2 b2 k3
      exact ⟨by omega, by omega, b2, k, k1, k2, k3⟩
    · rintro ⟨a, b, c, k, k1, k2, k3⟩
      exact ⟨by omega, ⟨by omega, c⟩, k, k1, k2, k3⟩
  have ub : ∀ (x : Int32) k, bt (x ||| f_X4_only (nI i)) k = true ↔ bt x k = true ∨ k = i := fun x k => by
    rw [b_or, Bool.or_eq_true, only_bT hi]
  have ti : tn i = -1 := by
    rcases hN i hi with ⟨_, e⟩ | ⟨b, _⟩
    · exact e
    · rw [b] at hr; cases hr
  have nP : ¬ Pj T m K tn 14 m := fun q => q.1 rfl
  have nQ : ¬ Qt T m K tn (T + 1) m := fun q => absurd q.1 (Nat.lt_irrefl _)
  -- where a node stands after the merge
  have pl : ∀ k, k < 14 → ∀ t, 1 ≤ t → t ≤ T → tn k = nI t → tn' k = (if t = m ∨ Pj T m K tn 14 t then nI m else nI t) := fun k hk t t1 t2 t3 => by
    have one : ∀ s, Pj T m K tn 14 s → tn k = nI s → s = t := fun s s1 s2 => nIi (by have := s1.2.1.2; omega) (by omega) (s2.symm.trans t3)
    by_cases c : Pj T m K tn 14 t
    · rw [if_pos (Or.inr c)]; exact (hG.1 k hk).1 ⟨t, c, t3⟩
    · have e : tn' k = tn k := (hG.1 k hk).2 (fun ⟨s, s1, s2⟩ => c (by rw [← one s s1 s2]; exact s1))
      rw [e, t3]
      by_cases d : t = m
      · rw [if_pos (Or.inl d), d]
      · rw [if_neg (fun q => Or.elim q d c)]
  have pl0 : ∀ k, k < 14 → tn k = -1 → tn' k = -1 := fun k hk e => by
    rw [(hG.1 k hk).2 (fun ⟨s, s1, s2⟩ => nIn (t := s) (by have := s1.2.1.2; omega) (s2.symm.trans e)), e]
  -- the bits of the set m after the merge
  have mb : ∀ k, k < 14 → ∀ t, 1 ≤ t → t ≤ T → tn k = nI t → (bt (md' m) k = true ↔ t = m ∨ Pj T m K tn 14 t) := fun k hk t t1 t2 t3 => by
    rw [hR.2 k]
    constructor
    · rintro (a | ⟨s, s1, s2⟩)
      · have := ((hD m hm1 hmT).2 k hk).mp a
        exact Or.inl (nIi (by omega) (by omega) (t3.symm.trans this))
      · have hs : 1 ≤ s ∧ s ≤ T := ⟨by have := s1.1; omega, s1.2.2.1⟩
        have := ((hD s hs.1 hs.2).2 k hk).mp s2
        have e : t = s := nIi (by omega) (by omega) (t3.symm.trans this)
        rw [e]
        exact Or.inr ((PQ s).mpr s1)
    · rintro (a | a)
      · exact Or.inl (((hD m hm1 hmT).2 k hk).mpr (by rw [t3, a]))
      · exact Or.inr ⟨t, (PQ t).mp a, ((hD t t1 t2).2 k hk).mpr t3⟩
  have mb0 : ∀ k, k < 14 → tn k = -1 → bt (md' m) k = false := fun k hk e => by
    cases hb : bt (md' m) k
    · rfl
    · exfalso
      rcases (hR.2 k).mp hb with a | ⟨s, s1, s2⟩
      · exact nIn (t := m) (by omega) ((((hD m hm1 hmT).2 k hk).mp a).symm.trans e)
      · have hs : 1 ≤ s ∧ s ≤ T := ⟨by have := s1.1; omega, s1.2.2.1⟩
        exact nIn (t := s) (by omega) ((((hD s hs.1 hs.2).2 k hk).mp s2).symm.trans e)
  have mM : M14 (md' m) := fun k hk => by
    cases hb : bt (md' m) k
    · rfl
    · exfalso
      rcases (hR.2 k).mp hb with a | ⟨s, s1, s2⟩
      · rw [(hD m hm1 hmT).1 k hk] at a; cases a
      · have hs : 1 ≤ s ∧ s ≤ T := ⟨by have := s1.1; omega, s1.2.2.1⟩
        rw [(hD s hs.1 hs.2).1 k hk] at s2; cases s2
  refine ⟨?_, ?_, ?_, ?_⟩
  · -- numbers
    intro k hk
    rw [upd_at, hM k hk]
    by_cases c : k = i
    · rw [if_pos c, if_pos ((ub _ k).mpr (Or.inr c))]
      exact Or.inr ⟨(ub _ k).mpr (Or.inr c), m, hm1, hmT, rfl, rfl⟩
    · rw [if_neg c]
      rcases hN k hk with ⟨b, e⟩ | ⟨b, t, t1, t2, t3, t4⟩
      · refine Or.inl ⟨?_, pl0 k hk e⟩
        cases hb : bt (r ||| f_X4_only (nI i)) k
        · rfl
        · rcases (ub r k).mp hb with z | z
          · rw [z] at b; cases b
          · exact absurd z c
      · refine Or.inr ⟨(ub r k).mpr (Or.inl b), ?_⟩
        rw [pl k hk t t1 t2 t3]
        by_cases d : t = m ∨ Pj T m K tn 14 t
        · rw [if_pos d, if_pos ((ub _ k).mpr (Or.inl ((mb k hk t t1 t2 t3).mpr d)))]
          exact ⟨m, hm1, hmT, rfl, rfl⟩
        · rw [if_neg d, if_neg (fun q => by
            rcases (ub _ k).mp q with z | z
            · exact d ((mb k hk t t1 t2 t3).mp z)
            · exact c z)]
          exact ⟨t, t1, t2, rfl, t4⟩
  · -- sets
    intro t t1 t2
    rw [upd_at]
    by_cases e : t = m
    · rw [if_pos e]
      refine ⟨mM.or (only_M hi), fun k hk => ?_⟩
      rw [ub, upd_at, e]
      by_cases c : k = i
      · rw [if_pos c]; exact ⟨fun _ => rfl, fun _ => Or.inr c⟩
      · rw [if_neg c]
        rcases hN k hk with ⟨b, e0⟩ | ⟨b, s, s1, s2, s3, s4⟩
        · rw [mb0 k hk e0, pl0 k hk e0]
          exact ⟨fun q => q.elim (fun z => Bool.noConfusion z) (fun z => absurd z c), fun q => absurd q.symm (nIn (by omega))⟩
        · rw [mb k hk s s1 s2 s3, pl k hk s s1 s2 s3]
          by_cases d : s = m ∨ Pj T m K tn 14 s
          · rw [if_pos d]; exact ⟨fun _ => rfl, fun _ => Or.inl d⟩
          · rw [if_neg d]
            exact ⟨fun q => q.elim (fun z => absurd z d) (fun z => absurd z c), fun q => absurd (Or.inl (nIi (by omega) (by omega) q)) d⟩
    · rw [if_neg e]
      obtain ⟨x1, x2⟩ := hR.1 t t1 t2
      by_cases p : Pj T m K tn 14 t
      · obtain ⟨y1, -, -⟩ := x1 ((PQ t).mp p)
        rw [y1]
        refine ⟨M14.zero, fun k hk => ?_⟩
        rw [b_0, upd_at]
        refine ⟨fun q => Bool.noConfusion q, fun q => ?_⟩
        exfalso
        by_cases c : k = i
        · rw [if_pos c] at q; exact e (nIi (by omega) (by omega) q).symm
        · rw [if_neg c] at q
          rcases hN k hk with ⟨b, e0⟩ | ⟨b, s, s1, s2, s3, s4⟩
          · rw [pl0 k hk e0] at q; exact nIn (t := t) (by omega) q.symm
          · rw [pl k hk s s1 s2 s3] at q
            by_cases d : s = m ∨ Pj T m K tn 14 s
            · rw [if_pos d] at q; exact e (nIi (by omega) (by omega) q).symm
            · rw [if_neg d] at q
              rw [nIi (by omega) (by omega) q] at d
              exact d (Or.inr p)
      · obtain ⟨y1, -, -⟩ := x2 (fun q => p ((PQ t).mpr q))
        rw [y1 e]
        refine ⟨(hD t t1 t2).1, fun k hk => ?_⟩
        rw [(hD t t1 t2).2 k hk, upd_at]
        by_cases c : k = i
        · rw [if_pos c, c, ti]
          exact ⟨fun q => absurd q.symm (nIn (by omega)), fun q => absurd (nIi (by omega) (by omega) q).symm e⟩
        · rw [if_neg c]
          rcases hN k hk with ⟨b, e0⟩ | ⟨b, s, s1, s2, s3, s4⟩
          · rw [pl0 k hk e0, e0]
          · rw [pl k hk s s1 s2 s3, s3]
            by_cases d : s = m ∨ Pj T m K tn 14 s
            · rw [if_pos d]
              refine ⟨fun q => ?_, fun q => absurd (nIi (by omega) (by omega) q).symm e⟩
              rw [nIi (by omega) (by omega) q] at d
              exact absurd d (fun z => z.elim e p)
            · rw [if_neg d]
  · exact fun t t1 t2 => (hG.2.1 t t1).trans (hS t t1 t2)
  · -- states
    intro t t1 t2
    rw [upd_at]
    obtain ⟨x1, x2⟩ := hR.1 t t1 t2
    obtain ⟨w1, w2⟩ := hG.2.2 t t1 t2
    by_cases e : t = m
    · subst e
      obtain ⟨-, y2, y3⟩ := x2 nQ
      rw [if_pos rfl]
      obtain ⟨k, k1, k2, k3⟩ := hin
      have hb := ((hD t t1 t2).2 k k1).mpr k3
      have hne : ¬ md t = 0 := fun q => by rw [q, b_0] at hb; cases hb
      have hne2 : ¬ md' t ||| f_X4_only (nI i) = 0 := fun q => by
        have : bt (md' t ||| f_X4_only (nI i)) i = true := (ub _ i).mpr (Or.inr rfl)
        rw [q, b_0] at this
        cases this
      rcases hZ t t1 t2 with ⟨a, b, c⟩ | ⟨a, b, c⟩ | ⟨a, b, c⟩
      · exact Or.inl ⟨y2.trans a, hne2, (w2 nP).trans c⟩
      · exact absurd b hne
      · exact absurd b hne
    · rw [if_neg e]
      by_cases p : Pj T m K tn 14 t
      · obtain ⟨y1, y2, y3⟩ := x1 ((PQ t).mp p)
        exact Or.inr (Or.inr ⟨y2, y1, m, hm1, hmT, y3, w1 p⟩)
      · obtain ⟨y1, y2, y3⟩ := x2 (fun q => p ((PQ t).mpr q))
        rw [y1 e, y2, y3, w2 p]
        exact hZ t t1 t2
/-- a node without raised kin: a new ticket -/
theorem join_new {T : Nat} {tn tt mt md mz mi mt' : AA} {r : Int32} {i : Nat} (hT : T < 300) (h : TK T tn tt r mt md mz mi) (hi : i < 14) (hr : bt r i = false) (hM : ∀ k, k < 14 → mt' k = if bt (0 ||| f_X4_only (nI i)) k = true then nI (T + 1) else mt k) :
    TK (T + 1) (upd tn i (nI (T + 1))) tt (r ||| f_X4_only (nI i)) mt' (upd (upd md (T + 1) 0) (T + 1) (0 ||| f_X4_only (nI i))) (upd mz (T + 1) 1) mi := by
  obtain ⟨hN, hD, hS, hZ⟩ := id h
  have ub : ∀ (x : Int32) k, bt (x ||| f_X4_only (nI i)) k = true ↔ bt x k = true ∨ k = i := fun x k => by
    rw [b_or, Bool.or_eq_true, only_bT hi]
  have u0 : ∀ k, bt (0 ||| f_X4_only (nI i)) k = true ↔ k = i := fun k => by
    rw [ub, b_0]; exact ⟨fun q => q.resolve_left (fun z => Bool.noConfusion z), Or.inr⟩
  have ti : tn i = -1 := by
    rcases hN i hi with ⟨_, e⟩ | ⟨b, _⟩
    · exact e
    · rw [b] at hr; cases hr
  have old : ∀ k, k < 14 → ¬ tn k = nI (T + 1) := fun k hk q => by
    rcases hN k hk with ⟨_, e⟩ | ⟨_, t, t1, t2, t3, _⟩
    · exact nIn (t := T + 1) (by omega) (q.symm.trans e)
    · have := nIi (s := T + 1) (t := t) (by omega) (by omega) (q.symm.trans t3)
      omega
  refine ⟨?_, ?_, fun t t1 t2 => hS t (by omega) t2, ?_⟩
  · intro k hk
    rw [upd_at, hM k hk]
    by_cases c : k = i
    · rw [if_pos c, if_pos ((u0 k).mpr c)]
      exact Or.inr ⟨(ub _ k).mpr (Or.inr c), T + 1, by omega, Nat.le_refl _, rfl, rfl⟩
    · rw [if_neg c, if_neg (fun q => c ((u0 k).mp q))]
      rcases hN k hk with ⟨b, e⟩ | ⟨b, t, t1, t2, t3, t4⟩
      · refine Or.inl ⟨?_, e⟩
        cases hb : bt (r ||| f_X4_only (nI i)) k
        · rfl
        · rcases (ub r k).mp hb with z | z
          · rw [z] at b; cases b
          · exact absurd z c
      · exact Or.inr ⟨(ub r k).mpr (Or.inl b), t, t1, by omega, t3, t4⟩
  · intro t t1 t2
    rw [upd_at]
    by_cases e : t = T + 1
    · rw [if_pos e]
      refine ⟨M14.zero.or (only_M hi), fun k hk => ?_⟩
      rw [u0, upd_at, e]
      by_cases c : k = i
      · rw [if_pos c]; exact ⟨fun _ => rfl, fun _ => c⟩
      · rw [if_neg c]; exact ⟨fun q => absurd q c, fun q => absurd q (old k hk)⟩
    · rw [if_neg e, upd_at, if_neg e]
      refine ⟨(hD t t1 (by omega)).1, fun k hk => ?_⟩
      rw [(hD t t1 (by omega)).2 k hk, upd_at]
      by_cases c : k = i
      · rw [if_pos c, c, ti]
        exact ⟨fun q => absurd q.symm (nIn (by omega)), fun q => absurd (nIi (by omega) (by omega) q).symm e⟩
      · rw [if_neg c]
  · intro t t1 t2
    rw [upd_at, upd_at, upd_at]
    by_cases e : t = T + 1
    · rw [if_pos e, if_pos e]
      refine Or.inl ⟨rfl, fun q => ?_, by rw [e]; exact hS (T + 1) (Nat.lt_succ_self _) (by omega)⟩
      have := (u0 i).mpr rfl
      rw [q, b_0] at this
      cases this
    · rw [if_neg e, if_neg e, if_neg e]
      rcases hZ t t1 (by omega) with a | a | ⟨a, b, s, s1, s2, s3, s4⟩
      · exact Or.inl a
      · exact Or.inr (Or.inl a)
      · exact Or.inr (Or.inr ⟨a, b, s, s1, by omega, s3, s4⟩)
