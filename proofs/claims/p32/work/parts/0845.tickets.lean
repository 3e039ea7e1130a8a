/-! ===== tickets: the class's numbers, the reference's sets ===== -/
/-- how many of the first j nodes have the number t -/
def cnt (tn : AA) (t : Int32) : Nat → Nat
  | 0 => 0
  | k + 1 => cnt tn t k + (if tn k = t then 1 else 0)
theorem cnt_cn {x t : Int32} {tn : AA} (h : ∀ k, k < 14 → (bt x k = true ↔ tn k = t)) : ∀ j, j ≤ 14 → cb x j = cnt tn t j
  | 0, _ => rfl
  | j + 1, hj => by
    rw [cb, cnt, cnt_cn h j (by omega)]
    by_cases c : tn j = t
    · rw [if_pos c, if_pos ((h j (by omega)).mpr c)]
    · rw [if_neg c, if_neg (fun q => c ((h j (by omega)).mp q))]
theorem cnt_le (tn : AA) (t : Int32) : ∀ j, cnt tn t j ≤ j
  | 0 => Nat.le_refl _
  | j + 1 => by have := cnt_le tn t j; rw [cnt]; split <;> omega
theorem cnt_cong {tn tn' : AA} {t : Int32} : ∀ j, (∀ k, k < j → (tn' k = t ↔ tn k = t)) → cnt tn' t j = cnt tn t j
  | 0, _ => rfl
  | j + 1, h => by
    rw [cnt, cnt, cnt_cong j (fun k hk => h k (by omega))]
    have := h j (by omega)
    by_cases c : tn j = t
    · rw [if_pos c, if_pos (this.mpr c)]
    · rw [if_neg c, if_neg (fun q => c (this.mp q))]
theorem cnt_move {tn tn' : AA} {a b : Int32} (hab : ¬ a = b) : ∀ j, (∀ k, k < j → tn' k = if tn k = a then b else tn k) → cnt tn' b j = cnt tn b j + cnt tn a j ∧ cnt tn' a j = 0
  | 0, _ => ⟨rfl, rfl⟩
  | j + 1, h => by
    obtain ⟨h1, h2⟩ := cnt_move hab j (fun k hk => h k (by omega))
    have e := h j (by omega)
    rw [cnt, cnt, cnt, cnt, h1, h2, e]
    by_cases c : tn j = a
    · have nb : ¬ tn j = b := fun q => hab (c.symm.trans q)
      rw [if_pos c, if_pos rfl, if_neg nb, if_pos c, if_neg (fun q => hab q.symm)]
      omega
    · rw [if_neg c, if_neg c]
      by_cases d : tn j = b
      · rw [if_pos d]; omega
      · rw [if_neg d]; omega
theorem cnt_put {tn : AA} {t : Int32} {a : Nat} (h0 : ¬ tn a = t) : ∀ j, cnt (upd tn a t) t j = cnt tn t j + (if a < j then 1 else 0)
  | 0 => rfl
  | j + 1 => by
    rw [cnt, cnt, cnt_put h0 j, upd_at]
    rcases Nat.lt_trichotomy a j with q | q | q
    · rw [if_pos q, if_neg (show ¬ j = a by omega), if_pos (show a < j + 1 by omega)]
      exact Nat.add_right_comm _ _ _
    · subst q
      rw [if_neg (Nat.lt_irrefl a), if_pos (rfl : a = a), if_pos (rfl : t = t), if_neg h0, if_pos (Nat.lt_succ_self a)]
    · rw [if_neg (show ¬ a < j by omega), if_neg (show ¬ j = a by omega), if_neg (show ¬ a < j + 1 by omega)]
      rfl
theorem cnt_off {tn : AA} {t z : Int32} {a : Nat} (h0 : tn a = t) (hz : ¬ z = t) : ∀ j, cnt (upd tn a z) t j + (if a < j then 1 else 0) = cnt tn t j
  | 0 => rfl
  | j + 1 => by
    have ih := cnt_off h0 hz j
    rw [cnt, cnt, ← ih, upd_at]
    rcases Nat.lt_trichotomy a j with q | q | q
    · rw [if_pos q, if_neg (show ¬ j = a by omega), if_pos (show a < j + 1 by omega)]
      exact Nat.add_right_comm _ _ _
    · subst q
      rw [if_neg (Nat.lt_irrefl a), if_pos (rfl : a = a), if_neg hz, if_pos (Nat.lt_succ_self a), if_pos h0]
    · rw [if_neg (show ¬ a < j by omega), if_neg (show ¬ j = a by omega), if_neg (show ¬ a < j + 1 by omega)]
      rfl
def TN (T : Nat) (r : Int32) (tn mt : AA) : Prop := ∀ k, k < 14 → (bt r k = false ∧ tn k = -1) ∨ (bt r k = true ∧ ∃ t, 1 ≤ t ∧ t ≤ T ∧ tn k = nI t ∧ mt k = nI t)
def TD (T : Nat) (tn md : AA) : Prop := ∀ t, 1 ≤ t → t ≤ T → M14 (md t) ∧ ∀ k, k < 14 → (bt (md t) k = true ↔ tn k = nI t)
def TF (T : Nat) (tt : AA) : Prop := ∀ t, T < t → t ≤ 300 → tt t = -1
def TZ (T : Nat) (tt md mz mi : AA) : Prop := ∀ t, 1 ≤ t → t ≤ T → (mz t = 1 ∧ ¬ md t = 0 ∧ tt t = -1) ∨ (mz t = 2 ∧ md t = 0 ∧ tt t = -1) ∨ (mz t = 3 ∧ md t = 0 ∧ ∃ s, 1 ≤ s ∧ s ≤ T ∧ mi t = nI s ∧ tt t = nI s)
def TK (T : Nat) (tn tt : AA) (r : Int32) (mt md mz mi : AA) : Prop := TN T r tn mt ∧ TD T tn md ∧ TF T tt ∧ TZ T tt md mz mi
theorem nIn {t : Nat} (ht : t ≤ 300) : ¬ nI t = -1 := (by decide +kernel : ∀ t, t < 301 → ¬ nI t = -1) t (by omega)
theorem nIi {s t : Nat} (hs : s ≤ 300) (ht : t ≤ 300) (h : nI s = nI t) : s = t := (nI_eq (by omega) (by omega)).mp h
theorem size_L {tn : AA} {a : Int32} : ∀ (c j n : Nat), j + c = 14 → c < n → p_X3_sizeOf_L14 tn a n (nI (cnt tn a j)) (nI j) ∧ f_X3_sizeOf_L14 tn a n (nI (cnt tn a j)) (nI j) = (nI (cnt tn a 14), nI 14) := by
  intro c
  induction c with
  | zero =>
    intro j n hj hn
    obtain ⟨n, rfl⟩ : ∃ m, n = m + 1 := ⟨n - 1, by omega⟩
    have e : j = 14 := by omega
    subst e
    refine ⟨?_, ?_⟩
    · rw [p_X3_sizeOf_L14]; exact ⟨fun _ => trivial, fun h => absurd y14 h⟩
    · rw [f_X3_sizeOf_L14, if_pos y14]
  | succ c ih =>
    intro j n hj hn
    obtain ⟨n, rfl⟩ : ∃ m, n = m + 1 := ⟨n - 1, by omega⟩
    have hj14 : j < 14 := by omega
    have l := n14 hj14
    obtain ⟨a1, a2⟩ := ih (j + 1) n (by omega) (by omega)
    by_cases C : tn j = a
    · have e : cnt tn a (j + 1) = cnt tn a j + 1 := by rw [cnt, if_pos C]
      rw [e] at a1 a2
      refine ⟨?_, ?_⟩
      · rw [p_X3_sizeOf_L14, cl (by omega), nI_1, nI_1]
        exact ⟨fun q => absurd q l, fun _ => ⟨in14 hj14, fun _ => a1, fun q => absurd C q⟩⟩
      · rw [f_X3_sizeOf_L14, if_neg l, cl (by omega), if_pos C, nI_1, nI_1]
        exact a2
    · have e : cnt tn a (j + 1) = cnt tn a j := by rw [cnt, if_neg C]; rfl
      rw [e] at a1 a2
      refine ⟨?_, ?_⟩
      · rw [p_X3_sizeOf_L14, cl (by omega), nI_1, nI_1]
        exact ⟨fun q => absurd q l, fun _ => ⟨in14 hj14, fun q => absurd q C, fun _ => a1⟩⟩
      · rw [f_X3_sizeOf_L14, if_neg l, cl (by omega), if_neg C, nI_1]
        exact a2
theorem size_p (T : Int32) (tn : AA) (a : Int32) : p_X3_sizeOf T tn a := by
  obtain ⟨h, -⟩ := size_L (tn := tn) (a := a) 14 0 15 rfl (by decide)
  have e : cnt tn a 0 = 0 := rfl
  rw [e, nI_0] at h
  exact ⟨fun _ => trivial, fun _ => ⟨h, fun _ _ _ => trivial⟩⟩
theorem us_1 {t T : Nat} (h1 : 1 ≤ t) (h2 : t ≤ T) (hT : T ≤ 300) : f_X3_isUsed (nI T) (nI t) = 1 := by
  unfold f_X3_isUsed
  dsimp only
  have l1 : ¬ nI t < 1 := nI_nlt (b := 1) h1 (by omega)
  have l2 : ¬ nI T < nI t := nI_nlt h2 (by omega)
  have l3 : ¬ (301 : Int32) ≤ nI t := nI_ge (b := 301) (by omega) (by decide)
  rw [if_neg l1, if_neg l2, if_neg l3]
theorem size_c {t T : Nat} (tn : AA) (h1 : 1 ≤ t) (h2 : t ≤ T) (hT : T ≤ 300) : f_X3_sizeOf (nI T) tn (nI t) = nI (cnt tn (nI t) 14) := by
  obtain ⟨-, h⟩ := size_L (tn := tn) (a := nI t) 14 0 15 rfl (by decide)
  have e : cnt tn (nI t) 0 = 0 := rfl
  rw [e, nI_0] at h
  unfold f_X3_sizeOf
  rw [us_1 h1 h2 hT, if_neg (by decide), h]
theorem TK.size {T : Nat} {tn tt mt md mz mi : AA} {r : Int32} (hT : T ≤ 300) (h : TK T tn tt r mt md mz mi) {t : Nat} (h1 : 1 ≤ t) (h2 : t ≤ T) : f_X3_sizeOf (nI T) tn (nI t) = nI (cn (md t)) := by
  rw [size_c tn h1 h2 hT, cn, cnt_cn (h.2.1 t h1 h2).2 14 (Nat.le_refl _)]
theorem in301 {j : Nat} (h : j ≤ 300) : vp_in (nI j) 301 := vp_in_nI (by omega) (by decide)
theorem in302 {j : Nat} (h : j ≤ 301) : vp_in (nI j) 302 := vp_in_nI (by omega) (by decide)
theorem tk_c (a : Int32) {T : Nat} (hT : T ≤ 300) : (∃ t, 1 ≤ t ∧ t ≤ T ∧ a = nI t ∧ f_X3_isUsed (nI T) a = 1) ∨ f_X3_isUsed (nI T) a = 0 := by
  unfold f_X3_isUsed
  dsimp only
  rcases pk_ix a (n := T + 1) (by omega) with q | q | ⟨t, ht, e⟩
  · have l : a < 1 := Int32.lt_of_lt_of_le q (by decide)
    exact Or.inr (by rw [if_pos l])
  · have l : nI T < a := Int32.lt_of_lt_of_le (nI_lt (Nat.lt_succ_self T) (by omega)) q
    have l1 : ¬ a < 1 := fun c => Int32.lt_irrefl (Int32.lt_of_lt_of_le c (Int32.le_trans ((nI_leI (a := 1) (b := T + 1) (by decide) (by omega)).mpr (by omega)) q))
    exact Or.inr (by rw [if_neg l1, if_pos l])
  · rcases Nat.eq_zero_or_pos t with z | z
    · subst z
      have l : a < 1 := by rw [e]; decide
      exact Or.inr (by rw [if_pos l])
    · have l1 : ¬ a < 1 := by rw [e]; exact nI_nlt (b := 1) z (by omega)
      have l2 : ¬ nI T < a := by rw [e]; exact nI_nlt (by omega) (by omega)
      have l3 : ¬ (301 : Int32) ≤ a := by rw [e]; exact nI_ge (b := 301) (by omega) (by decide)
      exact Or.inl ⟨t, z, by omega, e, by rw [if_neg l1, if_neg l2, if_neg l3]⟩
theorem us_in {a : Int32} {T : Nat} (hT : T ≤ 300) (q : ¬ f_X3_isUsed (nI T) a = 0) : vp_in a 301 ∧ vp_in a 302 := by
  rcases tk_c a hT with ⟨t, h1, h2, e, -⟩ | z
  · rw [e]; exact ⟨in301 (by omega), in302 (by omega)⟩
  · exact absurd z q
theorem ts_val {T : Nat} {tn tt mt md mz mi : AA} {r : Int32} (hT : T ≤ 300) (h : TK T tn tt r mt md mz mi) {t : Nat} (h1 : 1 ≤ t) (h2 : t ≤ T) : (if tt t = -1 then (if f_X3_sizeOf (nI T) tn (nI t) ≤ 0 then (2 : Int32) else (1 : Int32)) else (3 : Int32)) = mz t := by
  have es := h.size hT h1 h2
  have hc := cn_le (md t)
  rcases h.2.2.2 t h1 h2 with ⟨a, b, c⟩ | ⟨a, b, c⟩ | ⟨a, b, s, s1, s2, s3, s4⟩
  · have hp : 0 < cn (md t) := by
      rcases Nat.eq_zero_or_pos (cn (md t)) with z | z
      · exfalso
        refine b (M14.ext (h.2.1 t h1 h2).1 M14.zero fun i hi => ?_)
        rw [cb_zero.mp z i hi, b_0]
      · exact z
    have hn : ¬ f_X3_sizeOf (nI T) tn (nI t) ≤ 0 := by rw [es]; exact nI_ge (a := 0) hp (by omega)
    rw [if_pos c, if_neg hn, a]
  · have z : f_X3_sizeOf (nI T) tn (nI t) ≤ 0 := by rw [es, b]; decide +kernel
    rw [if_pos c, if_pos z, a]
  · rw [if_neg (by rw [s4]; exact nIn (by omega)), a]
/-- a node leaves its ticket -/
theorem leave_spec {T : Nat} {tn tt mt md mz mi : AA} {r : Int32} (hT : T ≤ 300) (h : TK T tn tt r mt md mz mi) {i : Nat} (hi : i < 14) (hr : bt r i = true) : ∃ t, 1 ≤ t ∧ t ≤ T ∧ tn i = nI t ∧ mt i = nI t ∧ f_X3_sizeOf (nI T) (upd tn i (-1)) (nI t) = nI (cn (md t &&& (f_X4_only (nI i) ^^^ (-1)))) ∧
    TK T (upd tn i (-1)) tt (r &&& (f_X4_only (nI i) ^^^ (-1))) mt (upd md t (md t &&& (f_X4_only (nI i) ^^^ (-1)))) (upd mz t (if md t &&& (f_X4_only (nI i) ^^^ (-1)) = 0 then 2 else 1)) mi := by
  obtain ⟨hN, hD, hF, hZ⟩ := id h
  rcases hN i hi with ⟨b, -⟩ | ⟨-, t, h1, h2, h3, h4⟩
  · rw [b] at hr; cases hr
  refine ⟨t, h1, h2, h3, h4, ?_⟩
  have cut : ∀ (x : Int32) (k : Nat), k < 14 → (bt (x &&& (f_X4_only (nI i) ^^^ (-1))) k = true ↔ bt x k = true ∧ ¬ k = i) := fun x k hk => by
    rw [b_and, not_b _ (by omega), only_b hi, Bool.and_eq_true]
    simp
  have hD2 : TD T (upd tn i (-1)) (upd md t (md t &&& (f_X4_only (nI i) ^^^ (-1)))) := fun t' a1 a2 => by
    rw [upd_at]
    by_cases e : t' = t
    · subst e
      rw [if_pos rfl]
      refine ⟨(hD t' a1 a2).1.and _, fun k hk => ?_⟩
      rw [cut _ k hk, upd_at, (hD t' a1 a2).2 k hk]
      by_cases c : k = i
      · rw [if_pos c]
        exact ⟨fun q => absurd c q.2, fun q => absurd q.symm (nIn (by omega))⟩
      · rw [if_neg c]
        exact ⟨fun q => q.1, fun q => ⟨q, c⟩⟩
    · rw [if_neg e]
      refine ⟨(hD t' a1 a2).1, fun k hk => ?_⟩
      rw [upd_at, (hD t' a1 a2).2 k hk]
      by_cases c : k = i
      · rw [if_pos c, c, h3]
        exact ⟨fun q => absurd (nIi (by omega) (by omega) q).symm e, fun q => absurd q.symm (nIn (by omega))⟩
      · rw [if_neg c]
  have ec : cn (md t &&& (f_X4_only (nI i) ^^^ (-1))) = cnt (upd tn i (-1)) (nI t) 14 := by
    have := (hD2 t h1 h2).2
    rw [upd_at, if_pos rfl] at this
    exact cnt_cn this 14 (Nat.le_refl _)
  refine ⟨by rw [size_c _ h1 h2 hT, ec], ?_, hD2, hF, ?_⟩
  · intro k hk
    by_cases c : k = i
    · refine Or.inl ⟨?_, by rw [upd_at, if_pos c]⟩
      cases hb : bt (r &&& (f_X4_only (nI i) ^^^ (-1))) k
      · rfl
      · exact absurd c ((cut r k hk).mp hb).2
    · rw [upd_at, if_neg c]
      rcases hN k hk with ⟨b, e⟩ | ⟨b, t', a1, a2, a3, a4⟩
      · refine Or.inl ⟨?_, e⟩
        cases hb : bt (r &&& (f_X4_only (nI i) ^^^ (-1))) k
        · rfl
        · rw [((cut r k hk).mp hb).1] at b; cases b
      · exact Or.inr ⟨(cut r k hk).mpr ⟨b, c⟩, t', a1, a2, a3, a4⟩
  · intro t' a1 a2
    rw [upd_at, upd_at]
    by_cases e : t' = t
    · subst e
      rw [if_pos rfl, if_pos rfl]
      have hne : ¬ md t' = 0 := fun q => by
        have := ((hD t' a1 a2).2 i hi).mpr h3
        rw [q, b_0] at this
        cases this
      have htt : tt t' = -1 := by
        rcases hZ t' a1 a2 with ⟨_, _, c⟩ | ⟨_, _, c⟩ | ⟨_, b, _⟩
        · exact c
        · exact c
        · exact absurd b hne
      by_cases z : md t' &&& (f_X4_only (nI i) ^^^ (-1)) = 0
      · rw [if_pos z]; exact Or.inr (Or.inl ⟨rfl, z, htt⟩)
      · rw [if_neg z]; exact Or.inl ⟨rfl, z, htt⟩
    · rw [if_neg e, if_neg e]
      exact hZ t' a1 a2
