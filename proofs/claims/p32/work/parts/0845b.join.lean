/-! ===== a node joins: the class merges by nodes, the reference by tickets ===== -/
theorem merge_L {t m : Int32} : ∀ (r j n : Nat) (tn : AA), j + r = 14 → r < n → p_X3_merge_L2 t m n (nI j) tn ∧ ∃ tn', f_X3_merge_L2 t m n (nI j) tn = (nI 14, tn') ∧ ∀ k, tn' k = if j ≤ k ∧ k < 14 ∧ tn k = t then m else tn k := by
  intro r
  induction r with
  | zero =>
    intro j n tn hj hn
    obtain ⟨n, rfl⟩ : ∃ k, n = k + 1 := ⟨n - 1, by omega⟩
    have e : j = 14 := by omega
    subst e
    refine ⟨?_, tn, ?_, fun k => ?_⟩
    · rw [p_X3_merge_L2]; exact ⟨fun _ => trivial, fun q => absurd y14 q⟩
    · rw [f_X3_merge_L2, if_pos y14]
    · rw [if_neg (fun q => by omega)]
  | succ r ih =>
    intro j n tn hj hn
    obtain ⟨n, rfl⟩ : ∃ k, n = k + 1 := ⟨n - 1, by omega⟩
    have hj14 : j < 14 := by omega
    have l := n14 hj14
    by_cases c : tn j = t
    · obtain ⟨a1, tn', a2, a3⟩ := ih (j + 1) n (upd tn j m) (by omega) (by omega)
      refine ⟨?_, tn', ?_, fun k => ?_⟩
      · rw [p_X3_merge_L2, cl (by omega), nI_1]
        exact ⟨fun q => absurd q l, fun _ => ⟨in14 hj14, fun _ => ⟨in14 hj14, a1⟩, fun q => absurd c q⟩⟩
      · rw [f_X3_merge_L2, if_neg l, cl (by omega), if_pos c, nI_1]
        exact a2
      · rw [a3 k, upd_at]
        by_cases e : k = j
        · subst e
          rw [if_pos rfl, if_neg (fun q => by omega), if_pos ⟨Nat.le_refl _, hj14, c⟩]
        · rw [if_neg e]
          by_cases w : j ≤ k ∧ k < 14 ∧ tn k = t
          · rw [if_pos w, if_pos ⟨by omega, w.2⟩]
          · rw [if_neg w, if_neg (fun q => w ⟨by omega, q.2⟩)]
    · obtain ⟨a1, tn', a2, a3⟩ := ih (j + 1) n tn (by omega) (by omega)
      refine ⟨?_, tn', ?_, fun k => ?_⟩
      · rw [p_X3_merge_L2, cl (by omega), nI_1]
        exact ⟨fun q => absurd q l, fun _ => ⟨in14 hj14, fun q => absurd q c, fun _ => a1⟩⟩
      · rw [f_X3_merge_L2, if_neg l, cl (by omega), if_neg c, nI_1]
        exact a2
      · rw [a3 k]
        by_cases w : j ≤ k ∧ k < 14 ∧ tn k = t
        · have e : ¬ k = j := fun q => c (by rw [← q]; exact w.2.2)
          rw [if_pos w, if_pos ⟨by omega, w.2⟩]
        · rw [if_neg w, if_neg (fun q => w ⟨by omega, q.2⟩)]
theorem merge_spec (tn tt : AA) {T t m : Nat} (hT : T ≤ 300) (t1 : 1 ≤ t) (t2 : t ≤ T) : p_X3_merge (nI T) tn (nI t) (nI m) ∧ ∃ tn', f_X3_merge (nI T) tn tt (nI t) (nI m) = (tn', upd tt t (nI m)) ∧ ∀ k, k < 14 → tn' k = if tn k = nI t then nI m else tn k := by
  obtain ⟨a1, tn', a2, a3⟩ := merge_L (t := nI t) (m := nI m) 14 0 15 tn rfl (by decide)
  rw [nI_0] at a1 a2
  refine ⟨⟨a1, fun _ _ _ => ⟨fun _ => trivial, fun _ => ⟨in301 (by omega), trivial⟩⟩⟩, tn', ?_, fun k hk => ?_⟩
  · unfold f_X3_merge
    rw [a2]
    dsimp only
    rw [us_1 t1 t2 hT, if_neg (by decide), cl (by omega)]
  · rw [a3 k]
    by_cases c : tn k = nI t
    · rw [if_pos ⟨Nat.zero_le _, hk, c⟩, if_pos c]
    · rw [if_neg (fun q => c q.2.2), if_neg c]
/-- the tickets of P have gone into m -/
def MG (P : Nat → Prop) (T m : Nat) (tn0 tt0 tn tt : AA) : Prop := (∀ k, k < 14 → ((∃ t, P t ∧ tn0 k = nI t) → tn k = nI m) ∧ ((¬ ∃ t, P t ∧ tn0 k = nI t) → tn k = tn0 k)) ∧ (∀ t, T < t → tt t = tt0 t) ∧ ∀ t, 1 ≤ t → t ≤ T → (P t → tt t = nI m) ∧ (¬ P t → tt t = tt0 t)
theorem MG.cong {P P' : Nat → Prop} (h : ∀ t, P t ↔ P' t) {T m : Nat} {tn0 tt0 tn tt : AA} (q : MG P T m tn0 tt0 tn tt) : MG P' T m tn0 tt0 tn tt := by
  have e : P = P' := funext fun t => propext (h t)
  rw [← e]
  exact q
def Pj (T m : Nat) (K : Int32) (tn0 : AA) (j t : Nat) : Prop := ¬ t = m ∧ (1 ≤ t ∧ t ≤ T) ∧ ∃ k, k < j ∧ bt K k = true ∧ tn0 k = nI t
theorem MG.step {P : Nat → Prop} {T m t : Nat} {tn0 tt0 tn tt tn' : AA} (hT : T ≤ 300) (hP : ∀ t, P t → 1 ≤ t ∧ t ≤ T) (ht1 : 1 ≤ t) (htT : t ≤ T) (hm1 : 1 ≤ m) (hmT : m ≤ T) (htm : ¬ t = m) (hPt : ¬ P t) (h : MG P T m tn0 tt0 tn tt) (he : ∀ k, k < 14 → tn' k = if tn k = nI t then nI m else tn k) : MG (fun s => P s ∨ s = t) T m tn0 tt0 tn' (upd tt t (nI m)) := by
  have hab : ¬ nI m = nI t := fun q => htm (nIi (by omega) (by omega) q).symm
  refine ⟨fun k hk => ?_, fun s hs => by rw [upd_at, if_neg (by omega)]; exact h.2.1 s hs, fun s s1 s2 => ?_⟩
  · obtain ⟨h1, h2⟩ := h.1 k hk
    by_cases w : ∃ s, P s ∧ tn0 k = nI s
    · have e1 : tn' k = nI m := by rw [he k hk, h1 w, if_neg hab]
      obtain ⟨s, s1, s2⟩ := w
      exact ⟨fun _ => e1, fun q => absurd ⟨s, Or.inl s1, s2⟩ q⟩
    · have e0 := h2 w
      rw [he k hk, e0]
      by_cases c : tn0 k = nI t
      · rw [if_pos c]
        exact ⟨fun _ => rfl, fun q => absurd ⟨t, Or.inr rfl, c⟩ q⟩
      · rw [if_neg c]
        refine ⟨?_, fun _ => rfl⟩
        rintro ⟨s, s1 | s1, s2⟩
        · exact absurd ⟨s, s1, s2⟩ w
        · rw [s1] at s2; exact absurd s2 c
  · obtain ⟨h1, h2⟩ := h.2.2 s s1 s2
    rw [upd_at]
    by_cases e : s = t
    · rw [if_pos e]
      exact ⟨fun _ => rfl, fun q => absurd (Or.inr e) q⟩
    · rw [if_neg e]
      exact ⟨fun q => h1 (q.resolve_right e), fun q => h2 (fun z => q (Or.inl z))⟩
theorem unite_L40 {T m : Nat} {K : Int32} {tn0 tt0 : AA} (hT : T ≤ 300) (hm1 : 1 ≤ m) (hmT : m ≤ T) (hK : ∀ k, k < 14 → bt K k = true → ∃ t, 1 ≤ t ∧ t ≤ T ∧ tn0 k = nI t) : ∀ (r j n : Nat) (tn tt : AA), j + r = 14 → r < n → MG (Pj T m K tn0 j) T m tn0 tt0 tn tt →
    p_X3_unite_L40 (nI T) K (nI m) n (nI j) tn tt ∧ ∃ tn' tt', f_X3_unite_L40 (nI T) K (nI m) n (nI j) tn tt = (nI 14, tn', tt') ∧ MG (Pj T m K tn0 14) T m tn0 tt0 tn' tt' := by
  intro r
  induction r with
  | zero =>
    intro j n tn tt hj hn h
    obtain ⟨n, rfl⟩ : ∃ k, n = k + 1 := ⟨n - 1, by omega⟩
    have e : j = 14 := by omega
    subst e
    refine ⟨?_, tn, tt, ?_, h⟩
    · rw [p_X3_unite_L40]; exact ⟨fun _ => trivial, fun q => absurd y14 q⟩
    · rw [f_X3_unite_L40, if_pos y14]
  | succ r ih =>
    intro j n tn tt hj hn h
    obtain ⟨n, rfl⟩ : ∃ k, n = k + 1 := ⟨n - 1, by omega⟩
    have hj14 : j < 14 := by omega
    have l := n14 hj14
    have hh := has4_0 K (n := j) (by omega)
    have wide : (∀ t, bt K j = true → 1 ≤ t → t ≤ T → tn0 j = nI t → t = m ∨ Pj T m K tn0 j t) → ∀ t, Pj T m K tn0 j t ↔ Pj T m K tn0 (j + 1) t := fun w t => by
      constructor
      · rintro ⟨a, b, k, k1, k2, k3⟩; exact ⟨a, b, k, by omega, k2, k3⟩
      · rintro ⟨a, b, k, k1, k2, k3⟩
        rcases Nat.lt_or_ge k j with q | q
        · exact ⟨a, b, k, q, k2, k3⟩
        · have e : k = j := by omega
          subst e
          exact (w t k2 b.1 b.2 k3).resolve_left a
    cases hb : bt K j
    · have c0 := hh.mpr hb
      obtain ⟨a1, tn', tt', a2, a3⟩ := ih (j + 1) n tn tt (by omega) (by omega) (h.cong (wide (fun t q _ _ _ => by rw [hb] at q; cases q)))
      refine ⟨?_, tn', tt', ?_, a3⟩
      · rw [p_X3_unite_L40, nI_1]
        exact ⟨fun q => absurd q l, fun _ => ⟨fun _ => a1, fun q => absurd c0 q⟩⟩
      · rw [f_X3_unite_L40, if_neg l, if_pos c0, nI_1]
        exact a2
    · have c0 : ¬ f_X4_has K (nI j) = 0 := fun q => by rw [hh.mp q] at hb; cases hb
      obtain ⟨t, t1, t2, t3⟩ := hK j hj14 hb
      have one : ∀ s, 1 ≤ s → s ≤ T → tn0 j = nI s → s = t := fun s s1 s2 s3 => nIi (by omega) (by omega) (s3.symm.trans t3)
      by_cases hs : t = m ∨ Pj T m K tn0 j t
      · have ej : tn j = nI m := by
          rcases hs with e | e
          · rw [(h.1 j hj14).2 (fun ⟨s, s1, s2⟩ => s1.1 ((one s s1.2.1.1 s1.2.1.2 s2).trans e)), t3, e]
          · exact (h.1 j hj14).1 ⟨t, e, t3⟩
        obtain ⟨a1, tn', tt', a2, a3⟩ := ih (j + 1) n tn tt (by omega) (by omega) (h.cong (wide (fun s _ s1 s2 s3 => by rw [one s s1 s2 s3]; exact hs)))
        refine ⟨?_, tn', tt', ?_, a3⟩
        · rw [p_X3_unite_L40, nI_1, cl (by omega)]
          exact ⟨fun q => absurd q l, fun _ => ⟨fun q => absurd q c0, fun _ => ⟨in14 hj14, fun _ => a1, fun q => absurd ej q⟩⟩⟩
        · rw [f_X3_unite_L40, if_neg l, if_neg c0, cl (by omega), if_pos ej, nI_1]
          exact a2
      · have htm : ¬ t = m := fun q => hs (Or.inl q)
        have hPt : ¬ Pj T m K tn0 j t := fun q => hs (Or.inr q)
        have ej : tn j = nI t := by
          rw [(h.1 j hj14).2 (fun ⟨s, s1, s2⟩ => hPt (by rw [← one s s1.2.1.1 s1.2.1.2 s2]; exact s1)), t3]
        have ne : ¬ nI t = nI m := fun q => htm (nIi (by omega) (by omega) q)
        obtain ⟨g1, tn1, g2, g3⟩ := merge_spec tn tt (m := m) hT t1 t2
        have hst := h.step hT (fun s q => q.2.1) t1 t2 hm1 hmT htm hPt g3
        have hst2 : MG (Pj T m K tn0 (j + 1)) T m tn0 tt0 tn1 (upd tt t (nI m)) := hst.cong fun s => by
          constructor
          · rintro (⟨a, b, k, k1, k2, k3⟩ | e)
            · exact ⟨a, b, k, by omega, k2, k3⟩
            · rw [e]; exact ⟨htm, ⟨t1, t2⟩, j, Nat.lt_succ_self _, hb, t3⟩
          · rintro ⟨a, b, k, k1, k2, k3⟩
            rcases Nat.lt_or_ge k j with q | q
            · exact Or.inl ⟨a, b, k, q, k2, k3⟩
            · have e : k = j := by omega
              subst e
              exact Or.inr (one s b.1 b.2 k3)
        obtain ⟨a1, tn', tt', a2, a3⟩ := ih (j + 1) n _ _ (by omega) (by omega) hst2
        refine ⟨?_, tn', tt', ?_, a3⟩
        · rw [p_X3_unite_L40, nI_1, cl (by omega), ej, g2]
          refine ⟨fun q => absurd q l, fun _ => ⟨fun q => absurd q c0, fun _ => ⟨in14 hj14, fun q => absurd q ne, fun _ => ⟨in14 hj14, g1, fun x y hxy => ?_⟩⟩⟩⟩
          cases hxy
          exact a1
        · rw [f_X3_unite_L40, if_neg l, if_neg c0, cl (by omega), ej, if_neg ne, g2, nI_1]
          exact a2
/-- the lowest number of the nodes of K, as far as j -/
def Mn (T : Nat) (K : Int32) (tn : AA) (j : Nat) (v7 v4 : Int32) : Prop := ((∀ k, k < j → bt K k = false) ∧ v7 = nI T ∧ v4 = -1) ∨ ∃ m, 1 ≤ m ∧ m ≤ T ∧ v7 = nI m ∧ v4 = nI m ∧ (∃ k, k < j ∧ bt K k = true ∧ tn k = nI m) ∧ ∀ k t, k < j → bt K k = true → t ≤ T → tn k = nI t → m ≤ t
