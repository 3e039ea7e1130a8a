/-! ===== how many nodes, which one ===== -/
def cb (x : Int32) : Nat → Nat
  | 0 => 0
  | k + 1 => cb x k + (if bt x k then 1 else 0)
def cn (x : Int32) : Nat := cb x 14
theorem cb_le (x : Int32) : ∀ k, cb x k ≤ k
  | 0 => Nat.le_refl _
  | k + 1 => by have := cb_le x k; rw [cb]; split <;> omega
theorem cn_le (x : Int32) : cn x ≤ 14 := cb_le x 14
theorem cb_mono (x : Int32) {a : Nat} : ∀ {b : Nat}, a ≤ b → cb x a ≤ cb x b
  | 0, h => by rw [show a = 0 by omega]; exact Nat.le_refl _
  | b + 1, h => by
    rcases Nat.lt_or_ge a (b + 1) with q | q
    · have := cb_mono x (a := a) (b := b) (by omega); rw [cb]; omega
    · rw [show a = b + 1 by omega]; exact Nat.le_refl _
theorem cb_strict {x : Int32} {a b : Nat} (h : bt x a = true) (hab : a < b) : cb x a < cb x b := by
  have h1 : cb x (a + 1) = cb x a + 1 := by rw [cb, h]; rfl
  have h2 := cb_mono x (a := a + 1) (b := b) hab
  omega
theorem cb_inj {x : Int32} {a b : Nat} (ha : bt x a = true) (hb : bt x b = true) (e : cb x a = cb x b) : a = b := by
  rcases Nat.lt_trichotomy a b with q | q | q
  · have := cb_strict ha q; omega
  · exact q
  · have := cb_strict hb q; omega
theorem cb_zero {x : Int32} : ∀ {k : Nat}, cb x k = 0 ↔ ∀ i, i < k → bt x i = false
  | 0 => ⟨fun _ i hi => absurd hi (Nat.not_lt_zero i), fun _ => rfl⟩
  | k + 1 => by
    rw [cb]
    constructor
    · intro h i hi
      rcases Nat.lt_or_ge i k with q | q
      · exact cb_zero.mp (by omega) i q
      · rw [show i = k by omega]
        cases hb : bt x k
        · rfl
        · rw [hb, if_pos rfl] at h; omega
    · intro h
      rw [cb_zero.mpr (fun i hi => h i (by omega)), h k (by omega)]
      rfl
theorem cb_kth {x : Int32} {c : Nat} : ∀ {n : Nat}, c < cb x n → ∃ k, k < n ∧ bt x k = true ∧ cb x k = c
  | 0, h => absurd h (Nat.not_lt_zero _)
  | n + 1, h => by
    rw [cb] at h
    rcases Nat.lt_or_ge c (cb x n) with q | q
    · obtain ⟨k, h1, h2, h3⟩ := cb_kth q
      exact ⟨k, by omega, h2, h3⟩
    · cases hb : bt x n
      · rw [hb] at h; simp at h; omega
      · rw [hb, if_pos rfl] at h
        exact ⟨n, by omega, hb, by omega⟩
/-- bits of a number -/
def pn (n : Nat) : Nat → Nat
  | 0 => 0
  | k + 1 => pn n k + (if n.testBit k then 1 else 0)
def g1 (n : Nat) : Nat := n - (n / 2 &&& 1431655765)
def g2 (n : Nat) : Nat := (n &&& 858993459) + (n / 4 &&& 858993459)
def g3 (n : Nat) : Nat := (n + n / 16) &&& 252645135
def g4 (n : Nat) : Nat := n + n / 256
def g5 (n : Nat) : Nat := n + n / 65536
def g6 (n : Nat) : Nat := g5 (g4 (g3 (g2 (g1 n)))) &&& 63
def g7 (a : Nat) : Bool := (List.range 128).all fun b => Nat.beq (g6 (128 * a + b)) (pn (128 * a + b) 14)
theorem g7_all : (List.range 128).all g7 = true := by decide +kernel
theorem g6_pn {n : Nat} (h : n < 16384) : g6 n = pn n 14 := by
  have h1 := List.all_eq_true.mp g7_all (n / 128) (List.mem_range.mpr (by omega))
  have h2 := List.all_eq_true.mp h1 (n % 128) (List.mem_range.mpr (by omega))
  have h3 := Nat.eq_of_beq_eq_true h2
  rw [show 128 * (n / 128) + n % 128 = n by omega] at h3
  exact h3
theorem ush {n : Nat} (hn : n < 2 ^ 32) (k : Nat) (hk : k < 32) : ((nI n).toUInt32 >>> ((nI k).toUInt32 &&& Int32.toUInt32 31)).toInt32 = nI (n / 2 ^ k) := pk_ushrN hn (nI k) k (s_u k hk)
theorem nI_and (a b : Nat) : nI a &&& nI b = nI (a &&& b) := by
  refine Int32.toBitVec_inj.mp ?_
  rw [Int32.toBitVec_and]
  show BitVec.ofNat 32 a &&& BitVec.ofNat 32 b = BitVec.ofNat 32 (a &&& b)
  exact BitVec.ofNat_and.symm
theorem and_le' (a b : Nat) : (a &&& b) ≤ a := Nat.and_le_left
theorem bitCount_g {n : Nat} (h : n < 16384) : f_J6_bitCount_0f7a4 (nI n) = nI (g6 n) := by
  have l1 : g1 n ≤ n := Nat.sub_le _ _
  have l2 : g2 (g1 n) ≤ g1 n + g1 n := by
    have a := and_le' (g1 n) 858993459
    have b := and_le' (g1 n / 4) 858993459
    have c := Nat.div_le_self (g1 n) 4
    unfold g2; omega
  have l3 : g3 (g2 (g1 n)) ≤ g2 (g1 n) + g2 (g1 n) := by
    have a := and_le' (g2 (g1 n) + g2 (g1 n) / 16) 252645135
    have c := Nat.div_le_self (g2 (g1 n)) 16
    unfold g3; omega
  have l4 : g4 (g3 (g2 (g1 n))) ≤ g3 (g2 (g1 n)) + g3 (g2 (g1 n)) := by
    have c := Nat.div_le_self (g3 (g2 (g1 n))) 256
    unfold g4; omega
  have e1 : nI n - (((nI n).toUInt32 >>> ((1 : Int32).toUInt32 &&& Int32.toUInt32 31)).toInt32 &&& 1431655765) = nI (g1 n) := by
    have u := ush (n := n) (by omega) 1 (by decide)
    rw [show (1 : Int32) = nI 1 from rfl, u, show (1431655765 : Int32) = nI 1431655765 from rfl, nI_and]
    refine pk_sub ?_
    have a := and_le' (n / 2 ^ 1) 1431655765
    omega
  have e2 : (nI (g1 n) &&& 858993459) + (((nI (g1 n)).toUInt32 >>> ((2 : Int32).toUInt32 &&& Int32.toUInt32 31)).toInt32 &&& 858993459) = nI (g2 (g1 n)) := by
    have u := ush (n := g1 n) (by omega) 2 (by decide)
    rw [show (2 : Int32) = nI 2 from rfl, u, show (858993459 : Int32) = nI 858993459 from rfl, nI_and, nI_and, nI_add]
    rfl
  have e3 : (nI (g2 (g1 n)) + ((nI (g2 (g1 n))).toUInt32 >>> ((4 : Int32).toUInt32 &&& Int32.toUInt32 31)).toInt32) &&& 252645135 = nI (g3 (g2 (g1 n))) := by
    have u := ush (n := g2 (g1 n)) (by omega) 4 (by decide)
    rw [show (4 : Int32) = nI 4 from rfl, u, nI_add, show (252645135 : Int32) = nI 252645135 from rfl, nI_and]
    rfl
  have e4 : nI (g3 (g2 (g1 n))) + ((nI (g3 (g2 (g1 n)))).toUInt32 >>> ((8 : Int32).toUInt32 &&& Int32.toUInt32 31)).toInt32 = nI (g4 (g3 (g2 (g1 n)))) := by
    have u := ush (n := g3 (g2 (g1 n))) (by omega) 8 (by decide)
    rw [show (8 : Int32) = nI 8 from rfl, u, nI_add]
    rfl
  have e5 : nI (g4 (g3 (g2 (g1 n)))) + ((nI (g4 (g3 (g2 (g1 n))))).toUInt32 >>> ((16 : Int32).toUInt32 &&& Int32.toUInt32 31)).toInt32 = nI (g5 (g4 (g3 (g2 (g1 n))))) := by
    have u := ush (n := g4 (g3 (g2 (g1 n)))) (by omega) 16 (by decide)
    rw [show (16 : Int32) = nI 16 from rfl, u, nI_add]
    rfl
  unfold f_J6_bitCount_0f7a4
  dsimp only
  rw [e1, e2, e3, e4, e5, show (63 : Int32) = nI 63 from rfl, nI_and]
  rfl
theorem bt_nI {n i : Nat} (hn : n < 2 ^ 32) : bt (nI n) i = n.testBit i := by
  show (nI n).toBitVec.toNat.testBit i = n.testBit i
  rw [pk_tn hn]
theorem M14.num {x : Int32} (h : M14 x) : ∃ n, n < 16384 ∧ x = nI n := by
  refine ⟨x.toBitVec.toNat, ?_, ?_⟩
  · exact Nat.lt_pow_two_of_testBit (n := 14) _ (fun i hi => h i hi)
  · exact Int32.toBitVec_inj.mp (show x.toBitVec = BitVec.ofNat 32 x.toBitVec.toNat by simp)
theorem cb_pn {n : Nat} (hn : n < 2 ^ 32) : ∀ k, cb (nI n) k = pn n k
  | 0 => rfl
  | k + 1 => by rw [cb, pn, cb_pn hn k, bt_nI hn]
theorem count6 {x : Int32} (h : M14 x) : f_J6_bitCount_0f7a4 x = nI (cn x) := by
  obtain ⟨n, hn, rfl⟩ := h.num
  rw [bitCount_g hn, g6_pn hn, cn, cb_pn (by omega)]
theorem nap_L (x p : Int32) : ∀ (r j n : Nat), j + r = 14 → r < n → p_X4_nodeAtPlace_L4 x p n (nI (cb x j)) (nI j) ∧
    ((∃ k, j ≤ k ∧ k < 14 ∧ bt x k = true ∧ p = nI (cb x k) ∧ f_X4_nodeAtPlace_L4 x p n (nI (cb x j)) (nI j) = nI k) ∨ ((∀ k, j ≤ k → k < 14 → bt x k = true → p ≠ nI (cb x k)) ∧ f_X4_nodeAtPlace_L4 x p n (nI (cb x j)) (nI j) = -1)) := by
  intro r
  induction r with
  | zero =>
    intro j n hj hn
    obtain ⟨n, rfl⟩ : ∃ k, n = k + 1 := ⟨n - 1, by omega⟩
    have e : j = 14 := by omega
    subst e
    refine ⟨?_, Or.inr ⟨fun k h1 h2 => by omega, ?_⟩⟩
    · rw [p_X4_nodeAtPlace_L4]; exact ⟨fun _ => trivial, fun h => absurd y14 h⟩
    · rw [f_X4_nodeAtPlace_L4, if_pos y14]
  | succ r ih =>
    intro j n hj hn
    obtain ⟨n, rfl⟩ : ∃ k, n = k + 1 := ⟨n - 1, by omega⟩
    have hj14 : j < 14 := by omega
    have hh := has4_0 x (n := j) (by omega)
    obtain ⟨h1, h2⟩ := ih (j + 1) n (by omega) (by omega)
    cases hb : bt x j
    · have ec : cb x (j + 1) = cb x j := by rw [cb, hb]; rfl
      rw [ec] at h1 h2
      have hf : f_X4_nodeAtPlace_L4 x p (n + 1) (nI (cb x j)) (nI j) = f_X4_nodeAtPlace_L4 x p n (nI (cb x j)) (nI (j + 1)) := by rw [f_X4_nodeAtPlace_L4, if_neg (n14 hj14), if_pos (hh.mpr hb), nI_1]
      refine ⟨?_, ?_⟩
      · rw [p_X4_nodeAtPlace_L4]; exact ⟨fun h => absurd h (n14 hj14), fun _ => ⟨fun _ => by rw [nI_1]; exact h1, fun h => absurd (hh.mpr hb) h⟩⟩
      · rw [hf]
        rcases h2 with ⟨k, a1, a2, a3, a4, a5⟩ | ⟨a1, a2⟩
        · exact Or.inl ⟨k, by omega, a2, a3, a4, a5⟩
        · refine Or.inr ⟨fun k b1 b2 b3 => ?_, a2⟩
          rcases Nat.lt_or_ge j k with q | q
          · exact a1 k q b2 b3
          · rw [show k = j by omega, hb] at b3; cases b3
    · have ec : cb x (j + 1) = cb x j + 1 := by rw [cb, hb]; rfl
      have hnb : ¬ f_X4_has x (nI j) = 0 := fun c => by rw [hh.mp c] at hb; cases hb
      by_cases ep : nI (cb x j) = p
      · refine ⟨?_, Or.inl ⟨j, Nat.le_refl _, hj14, hb, ep.symm, ?_⟩⟩
        · rw [p_X4_nodeAtPlace_L4]; exact ⟨fun h => absurd h (n14 hj14), fun _ => ⟨fun h => absurd h hnb, fun _ => ⟨fun _ => trivial, fun h => absurd ep h⟩⟩⟩
        · rw [f_X4_nodeAtPlace_L4, if_neg (n14 hj14), if_neg hnb, if_pos ep]
      · have hf : f_X4_nodeAtPlace_L4 x p (n + 1) (nI (cb x j)) (nI j) = f_X4_nodeAtPlace_L4 x p n (nI (cb x (j + 1))) (nI (j + 1)) := by rw [f_X4_nodeAtPlace_L4, if_neg (n14 hj14), if_neg hnb, if_neg ep, nI_1, nI_1, ec]
        refine ⟨?_, ?_⟩
        · rw [p_X4_nodeAtPlace_L4]; exact ⟨fun h => absurd h (n14 hj14), fun _ => ⟨fun h => absurd h hnb, fun _ => ⟨fun h => absurd h ep, fun _ => by rw [nI_1, nI_1, ← ec]; exact h1⟩⟩⟩
        · rw [hf]
          rcases h2 with ⟨k, a1, a2, a3, a4, a5⟩ | ⟨a1, a2⟩
          · exact Or.inl ⟨k, by omega, a2, a3, a4, a5⟩
          · refine Or.inr ⟨fun k b1 b2 b3 => ?_, a2⟩
            rcases Nat.lt_or_ge j k with q | q
            · exact a1 k q b2 b3
            · rw [show k = j by omega]; exact fun e => ep e.symm
theorem nap_spec (x p : Int32) : p_X4_nodeAtPlace x p ∧ ((∃ k, k < 14 ∧ bt x k = true ∧ p = nI (cb x k) ∧ f_X4_nodeAtPlace x p = nI k) ∨ ((∀ k, k < 14 → bt x k = true → p ≠ nI (cb x k)) ∧ f_X4_nodeAtPlace x p = -1)) := by
  obtain ⟨h1, h2⟩ := nap_L x p 14 0 15 rfl (by decide)
  have e : nI (cb x 0) = 0 := nI_0
  rw [e, nI_0] at h1 h2
  refine ⟨h1, ?_⟩
  unfold f_X4_nodeAtPlace
  rcases h2 with ⟨k, _, a2, a3, a4, a5⟩ | ⟨a1, a2⟩
  · exact Or.inl ⟨k, a2, a3, a4, a5⟩
  · exact Or.inr ⟨fun k h => a1 k (Nat.zero_le _) h, a2⟩
/-- the lowest node of a set -/
theorem nap0 (x : Int32) : (∃ k, k < 14 ∧ bt x k = true ∧ (∀ i, i < k → bt x i = false) ∧ f_X4_nodeAtPlace x 0 = nI k) ∨ ((∀ k, k < 14 → bt x k = false) ∧ f_X4_nodeAtPlace x 0 = -1) := by
  rcases (nap_spec x 0).2 with ⟨k, a1, a2, a3, a4⟩ | ⟨a1, a2⟩
  · have hle := cb_le x k
    have hc : cb x k = 0 := ((nI_eq (a := 0) (b := cb x k) (by decide) (by omega)).mp a3).symm
    exact Or.inl ⟨k, a1, a2, cb_zero.mp hc, a4⟩
  · refine Or.inr ⟨?_, a2⟩
    intro k hk
    cases hb : bt x k
    · rfl
    · have h1 := cb_strict hb (Nat.lt_succ_self k)
      have h2 := cb_mono x (a := k + 1) (b := 14) (by omega)
      obtain ⟨i, b1, b2, b3⟩ := cb_kth (x := x) (c := 0) (n := 14) (Nat.lt_of_lt_of_le (Nat.lt_of_le_of_lt (Nat.zero_le _) h1) h2)
      exact absurd (by rw [b3]; rfl) (a1 i b1 b2)
theorem nI_neg1 {k : Nat} (hk : k < 14) : ¬ nI k = -1 := (by decide +kernel : ∀ k, k < 14 → ¬ nI k = -1) k hk
