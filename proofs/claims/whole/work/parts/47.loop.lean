/-! ===== the law over every script ===== -/
theorem init_L : ∀ (c j n : Nat) (q : AA), j + c = 14 → c < n → p_X3_init_L28 n (nI j) q ∧ ∃ q', f_X3_init_L28 n (nI j) q = (nI 14, q') ∧ ∀ k, k < 14 → q' k = if j ≤ k then -1 else q k := by
  intro c
  induction c with
  | zero =>
    intro j n q hj hn
    obtain ⟨n, rfl⟩ : ∃ k, n = k + 1 := ⟨n - 1, by omega⟩
    have e : j = 14 := by omega
    subst e
    refine ⟨?_, q, ?_, fun k hk => ?_⟩
    · rw [p_X3_init_L28]; exact ⟨fun _ => trivial, fun h => absurd y14 h⟩
    · rw [f_X3_init_L28, if_pos y14]
    · rw [if_neg (by omega)]
  | succ c ih =>
    intro j n q hj hn
    obtain ⟨n, rfl⟩ : ∃ k, n = k + 1 := ⟨n - 1, by omega⟩
    have hj14 : j < 14 := by omega
    obtain ⟨a1, q', a2, a3⟩ := ih (j + 1) n (upd q j (-1)) (by omega) (by omega)
    refine ⟨?_, q', ?_, fun k hk => ?_⟩
    · rw [p_X3_init_L28]
      refine ⟨fun h => absurd h (n14 hj14), fun _ => ⟨in14 hj14, ?_⟩⟩
      rw [cl (j := j) (by omega), nI_1]
      exact a1
    · rw [f_X3_init_L28, if_neg (n14 hj14), cl (j := j) (by omega), nI_1]
      exact a2
    · rw [a3 k hk]
      by_cases h1 : j + 1 ≤ k
      · rw [if_pos h1, if_pos (by omega)]
      · rw [if_neg h1, upd_at]
        by_cases h2 : k = j
        · rw [if_pos h2, if_pos (by omega)]
        · rw [if_neg h2, if_neg (by omega)]
theorem init_T : ∀ (c j n : Nat) (q : AA), j + c = 301 → c < n → p_X3_init_L49 n (nI j) q ∧ ∃ q', f_X3_init_L49 n (nI j) q = (nI 301, q') ∧ ∀ k, k < 301 → q' k = if j ≤ k then -1 else q k := by
  intro c
  induction c with
  | zero =>
    intro j n q hj hn
    obtain ⟨n, rfl⟩ : ∃ k, n = k + 1 := ⟨n - 1, by omega⟩
    have e : j = 301 := by omega
    subst e
    have l : (300 : Int32) < nI 301 := nI_lt (a := 300) (by decide) (by decide)
    refine ⟨?_, q, ?_, fun k hk => ?_⟩
    · rw [p_X3_init_L49]; exact ⟨fun _ => trivial, fun h => absurd l h⟩
    · rw [f_X3_init_L49, if_pos l]
    · rw [if_neg (by omega)]
  | succ c ih =>
    intro j n q hj hn
    obtain ⟨n, rfl⟩ : ∃ k, n = k + 1 := ⟨n - 1, by omega⟩
    have hj3 : j < 301 := by omega
    have l : ¬ (300 : Int32) < nI j := nI_nlt (a := 300) (by omega) (by decide)
    obtain ⟨a1, q', a2, a3⟩ := ih (j + 1) n (upd q j (-1)) (by omega) (by omega)
    refine ⟨?_, q', ?_, fun k hk => ?_⟩
    · rw [p_X3_init_L49]
      refine ⟨fun h => absurd h l, fun _ => ⟨in301 (by omega), ?_⟩⟩
      rw [cl (j := j) (by omega), nI_1]
      exact a1
    · rw [f_X3_init_L49, if_neg l, cl (j := j) (by omega), nI_1]
      exact a2
    · rw [a3 k hk]
      by_cases h1 : j + 1 ≤ k
      · rw [if_pos h1, if_pos (by omega)]
      · rw [if_neg h1, upd_at]
        by_cases h2 : k = j
        · rw [if_pos h2, if_pos (by omega)]
        · rw [if_neg h2, if_neg (by omega)]
theorem Rc.no {N : Nat → Nat → Prop} (h : ∀ i j, ¬ N i j) {i j : Nat} : ¬ Rc N i j := fun ⟨n, w⟩ => by
  cases n with
  | zero => exact h i j w
  | succ n => exact (fun ⟨k, _, a, _⟩ => h i k a) w
theorem rel0 {tn tt : AA} (h : ∀ k, k < 14 → tn k = -1) (ht : ∀ k, k < 301 → tt k = -1) : Rel 0 0 0 (fun _ => 0) (fun _ => 0) (fun _ => 0) (fun _ => 0) tn tt (fun _ => 0) (fun _ => 0) (fun _ => 0) (fun _ => 0) (fun _ => 0) (fun _ => 0) := by
  have z : ∀ i j, ¬ NR (fun _ => 0) i j := fun i j q => by unfold NR at q; rw [b_0] at q; cases q
  have r : ∀ i j, ¬ Rc (NR (fun _ => 0)) i j := fun i j => Rc.no z
  refine ⟨⟨fun _ _ => M14.zero, fun _ _ => M14.zero, fun i _ => r i i, fun i j _ _ => ⟨fun q => absurd q (z _ _), fun q => absurd q (z _ _)⟩, fun _ _ => ⟨M14.zero, M14.zero⟩, fun i j _ _ => ⟨⟨fun q => absurd q (z _ _), fun q => absurd q (r _ _)⟩, ⟨fun q => absurd q (z _ _), fun q => absurd q (r _ _)⟩⟩⟩, fun _ _ => ⟨rfl, rfl⟩, M14.zero, by omega, by omega, ?_⟩
  exact ⟨fun k hk => Or.inl ⟨b_0 k, h k hk⟩, fun t h1 h2 => by omega, fun t _ h2 => ht t (by omega), fun t h1 h2 => by omega⟩
theorem sub3 : ∀ L, L < 1537 → 3 ≤ L → Int32.ofNat L - 3 = nI (L - 3) := fun L hL h => by
  have e : L = (L - 3) + 3 := by omega
  have e2 : Int32.ofNat L = nI ((L - 3) + 3) := by rw [← e]; rfl
  rw [e2, ← nI_add]
  show nI (L - 3) + 3 - 3 = nI (L - 3)
  exact Int32.add_sub_cancel _ _
theorem end3 {L k : Nat} (hL : L ≤ 1536) (hk : 3 * k ≤ L) : Int32.ofNat L - 3 < nI (3 * k) ↔ ¬ 3 * k + 3 ≤ L := by
  rcases Nat.lt_or_ge L 3 with q | q
  · have e : 3 * k = 0 := by omega
    rw [e]
    have : Int32.ofNat L - 3 < nI 0 := by
      rcases (show L = 0 ∨ L = 1 ∨ L = 2 by omega) with rfl | rfl | rfl
      · decide
      · decide
      · decide
    exact ⟨fun _ => by omega, fun _ => this⟩
  · rw [sub3 L (by omega) q, nI_ltI (by omega) (by omega)]
    omega
theorem law_step {xs : AA} {L n k : Nat} (hL : L ≤ 1536) (hk : 3 * k + 3 ≤ L) (hF : RF (f_L_law_L23 xs L n) (nI (3 * k) + 3)) (hP : RP (p_L_law_L23 xs L n) (nI (3 * k) + 3)) : RF (f_L_law_L23 xs L (n + 1)) (nI (3 * k)) ∧ RP (p_L_law_L23 xs L (n + 1)) (nI (3 * k)) := by
  have hn : ¬ Int32.ofNat L - 3 < nI (3 * k) := fun q => (end3 hL (by omega)).mp q hk
  have h0 : vp_in (nI (3 * k)) L := vp_in_nI (by omega) (by omega)
  have hA : vp_in (nI (3 * k) + 1) L := by rw [nI_1]; exact vp_in_nI (by omega) (by omega)
  have hB : vp_in (nI (3 * k) + 2) L := by rw [show (2 : Int32) = nI 2 from rfl, nI_add]; exact vp_in_nI (by omega) (by omega)
  refine ⟨fun C T r t mh gn gu gb ga lk ln lt ll lr tn tt mn mu mt md mz mi oo h => ?_, fun C T r t mh gn gu gb ga lk ln lt ll lr tn tt mn mu mt md mz mi oo h => ?_⟩
  · rw [f_L_law_L23, if_neg hn]
    by_cases c0 : xs (nI (3 * k)).toNatClampNeg &&& 31 = 0
    · rw [if_pos c0]; exact (k_c0 h hF hP hA hB).1
    rw [if_neg c0]
    by_cases c1 : xs (nI (3 * k)).toNatClampNeg &&& 31 = 1
    · rw [if_pos c1]; exact (k_c1 h hF hP hA hB).1
    rw [if_neg c1]
    by_cases c2 : xs (nI (3 * k)).toNatClampNeg &&& 31 = 2
    · rw [if_pos c2]; exact (k_c2 h hF hP hA hB).1
    rw [if_neg c2]
    by_cases c3 : xs (nI (3 * k)).toNatClampNeg &&& 31 = 3
    · rw [if_pos c3]; exact (k_c3 h hF hP hA hB).1
    rw [if_neg c3]
    by_cases c4 : xs (nI (3 * k)).toNatClampNeg &&& 31 = 4
    · rw [if_pos c4]; exact (k_c4 h hF hP hA hB).1
    rw [if_neg c4]
    by_cases c5 : xs (nI (3 * k)).toNatClampNeg &&& 31 = 5
    · rw [if_pos c5]; exact (k_c5 h hF hP hA hB).1
    rw [if_neg c5]
    by_cases c6 : xs (nI (3 * k)).toNatClampNeg &&& 31 = 6
    · rw [if_pos c6]; exact (k_c6 h hF hP).1
    rw [if_neg c6]
    by_cases c7 : xs (nI (3 * k)).toNatClampNeg &&& 31 = 7
    · rw [if_pos c7]; exact (k_c7 h hF hP hA hB).1
    rw [if_neg c7]
    by_cases c8 : xs (nI (3 * k)).toNatClampNeg &&& 31 = 8
    · rw [if_pos c8]; exact (k_c8 h hF hP hA hB).1
    rw [if_neg c8]
    by_cases c9 : xs (nI (3 * k)).toNatClampNeg &&& 31 = 9
    · rw [if_pos c9]; exact (k_c9 h hF hP hA hB).1
    rw [if_neg c9]
    by_cases c10 : xs (nI (3 * k)).toNatClampNeg &&& 31 = 10
    · rw [if_pos c10]; exact (k_c10 h hF hP hA hB).1
    rw [if_neg c10]
    by_cases c11 : xs (nI (3 * k)).toNatClampNeg &&& 31 = 11
    · rw [if_pos c11]; exact (k_c11 h hF hP hA hB).1
    rw [if_neg c11]
    by_cases c12 : xs (nI (3 * k)).toNatClampNeg &&& 31 = 12
    · rw [if_pos c12]; exact (k_c12 h hF hP).1
    rw [if_neg c12]
    by_cases c13 : xs (nI (3 * k)).toNatClampNeg &&& 31 = 13
    · rw [if_pos c13]; exact (k_c13 h hF hP hA hB).1
    rw [if_neg c13]
    by_cases c14 : xs (nI (3 * k)).toNatClampNeg &&& 31 = 14
    · rw [if_pos c14]; exact (k_c14 h hF hP hA hB).1
    rw [if_neg c14]
    by_cases c15 : xs (nI (3 * k)).toNatClampNeg &&& 31 = 15
    · rw [if_pos c15]; exact (k_c15 h hF hP hA hB).1
    rw [if_neg c15]
    by_cases c16 : xs (nI (3 * k)).toNatClampNeg &&& 31 = 16
    · rw [if_pos c16]; exact (k_c16 h hF hP hA hB).1
    rw [if_neg c16]
    by_cases c17 : xs (nI (3 * k)).toNatClampNeg &&& 31 = 17
    · rw [if_pos c17]; exact (k_c17 h hF hP).1
    rw [if_neg c17]
    by_cases c18 : xs (nI (3 * k)).toNatClampNeg &&& 31 = 18
    · rw [if_pos c18]; exact (k_c18 h hF hP hA hB).1
    rw [if_neg c18]
    by_cases c19 : xs (nI (3 * k)).toNatClampNeg &&& 31 = 19
    · rw [if_pos c19]; exact (k_c19 h hF hP hA hB).1
    rw [if_neg c19]
    by_cases c20 : xs (nI (3 * k)).toNatClampNeg &&& 31 = 20
    · rw [if_pos c20]; exact (k_c20 h hF hP hA hB).1
    rw [if_neg c20]
    by_cases c21 : xs (nI (3 * k)).toNatClampNeg &&& 31 = 21
    · rw [if_pos c21]; exact (k_c21 h hF hP hA hB).1
    rw [if_neg c21]
    by_cases c22 : xs (nI (3 * k)).toNatClampNeg &&& 31 = 22
    · rw [if_pos c22]; exact (k_c22 h hF hP hA hB).1
    rw [if_neg c22]
    by_cases c23 : xs (nI (3 * k)).toNatClampNeg &&& 31 = 23
    · rw [if_pos c23]; exact (k_c23 h hF hP).1
    rw [if_neg c23]
    by_cases c24 : xs (nI (3 * k)).toNatClampNeg &&& 31 = 24
    · rw [if_pos c24]; exact (k_c24 h hF hP hA hB).1
    rw [if_neg c24]
    by_cases c25 : xs (nI (3 * k)).toNatClampNeg &&& 31 = 25
    · rw [if_pos c25]; exact (k_c25 h hF hP hA hB).1
    rw [if_neg c25]
    by_cases c26 : xs (nI (3 * k)).toNatClampNeg &&& 31 = 26
    · rw [if_pos c26]; exact (k_c26 h hF hP).1
    rw [if_neg c26]
    by_cases c27 : xs (nI (3 * k)).toNatClampNeg &&& 31 = 27
    · rw [if_pos c27]; exact (k_c27 h hF hP hA hB).1
    rw [if_neg c27]
    by_cases c28 : xs (nI (3 * k)).toNatClampNeg &&& 31 = 28
    · rw [if_pos c28]; exact (k_c28 h hF hP hA hB).1
    rw [if_neg c28]
    exact hF _ _ _ _ _ _ _ _ _ _ _ _ _ _ _ _ _ _ _ _ _ _ _ h
  · rw [p_L_law_L23]
    refine ⟨fun q => absurd q hn, fun _ => ⟨h0, ?_⟩⟩
    refine ⟨fun _ => (k_c0 h hF hP hA hB).2, fun _ => ?_⟩
    refine ⟨fun _ => (k_c1 h hF hP hA hB).2, fun _ => ?_⟩
    refine ⟨fun _ => (k_c2 h hF hP hA hB).2, fun _ => ?_⟩
    refine ⟨fun _ => (k_c3 h hF hP hA hB).2, fun _ => ?_⟩
    refine ⟨fun _ => (k_c4 h hF hP hA hB).2, fun _ => ?_⟩
    refine ⟨fun _ => (k_c5 h hF hP hA hB).2, fun _ => ?_⟩
    refine ⟨fun _ => (k_c6 h hF hP).2, fun _ => ?_⟩
    refine ⟨fun _ => (k_c7 h hF hP hA hB).2, fun _ => ?_⟩
    refine ⟨fun _ => (k_c8 h hF hP hA hB).2, fun _ => ?_⟩
    refine ⟨fun _ => (k_c9 h hF hP hA hB).2, fun _ => ?_⟩
    refine ⟨fun _ => (k_c10 h hF hP hA hB).2, fun _ => ?_⟩
    refine ⟨fun _ => (k_c11 h hF hP hA hB).2, fun _ => ?_⟩
    refine ⟨fun _ => (k_c12 h hF hP).2, fun _ => ?_⟩
    refine ⟨fun _ => (k_c13 h hF hP hA hB).2, fun _ => ?_⟩
    refine ⟨fun _ => (k_c14 h hF hP hA hB).2, fun _ => ?_⟩
    refine ⟨fun _ => (k_c15 h hF hP hA hB).2, fun _ => ?_⟩
    refine ⟨fun _ => (k_c16 h hF hP hA hB).2, fun _ => ?_⟩
    refine ⟨fun _ => (k_c17 h hF hP).2, fun _ => ?_⟩
    refine ⟨fun _ => (k_c18 h hF hP hA hB).2, fun _ => ?_⟩
    refine ⟨fun _ => (k_c19 h hF hP hA hB).2, fun _ => ?_⟩
    refine ⟨fun _ => (k_c20 h hF hP hA hB).2, fun _ => ?_⟩
    refine ⟨fun _ => (k_c21 h hF hP hA hB).2, fun _ => ?_⟩
    refine ⟨fun _ => (k_c22 h hF hP hA hB).2, fun _ => ?_⟩
    refine ⟨fun _ => (k_c23 h hF hP).2, fun _ => ?_⟩
    refine ⟨fun _ => (k_c24 h hF hP hA hB).2, fun _ => ?_⟩
    refine ⟨fun _ => (k_c25 h hF hP hA hB).2, fun _ => ?_⟩
    refine ⟨fun _ => (k_c26 h hF hP).2, fun _ => ?_⟩
    refine ⟨fun _ => (k_c27 h hF hP hA hB).2, fun _ => ?_⟩
    refine ⟨fun _ => (k_c28 h hF hP hA hB).2, fun _ => ?_⟩
    exact hP _ _ _ _ _ _ _ _ _ _ _ _ _ _ _ _ _ _ _ _ _ _ _ h
theorem law_loop {xs : AA} {L : Nat} (hL : L ≤ 1536) : ∀ n k, 3 * k ≤ L → L < 3 * (k + n) → RF (f_L_law_L23 xs L n) (nI (3 * k)) ∧ RP (p_L_law_L23 xs L n) (nI (3 * k)) := by
  intro n
  induction n with
  | zero => intro k h1 h2; omega
  | succ n ih =>
    intro k h1 h2
    by_cases hk : 3 * k + 3 ≤ L
    · obtain ⟨a, b⟩ := ih (k + 1) (by omega) (by omega)
      have e : nI (3 * (k + 1)) = nI (3 * k) + 3 := by
        rw [show (3 : Int32) = nI 3 from rfl, nI_add]
        exact congrArg nI (by omega)
      rw [e] at a b
      exact law_step hL hk a b
    · have hy : Int32.ofNat L - 3 < nI (3 * k) := (end3 hL h1).mpr hk
      refine ⟨fun C T r t mh gn gu gb ga lk ln lt ll lr tn tt mn mu mt md mz mi oo h => ?_, fun C T r t mh gn gu gb ga lk ln lt ll lr tn tt mn mu mt md mz mi oo h => ?_⟩
      · rw [f_L_law_L23, if_pos hy]
      · rw [p_L_law_L23]; exact ⟨fun _ => trivial, fun q => absurd hy q⟩
theorem law_true (xs : AA) {L : Nat} (hL : L ≤ 1536) : f_L_law xs L = 1 ∧ p_L_law xs L := by
  obtain ⟨i1, q, i2, i3⟩ := init_L 14 0 15 (fun _ => 0) rfl (by decide)
  rw [nI_0] at i1 i2
  have i4 : ∀ k, k < 14 → q k = -1 := fun k hk => by rw [i3 k hk, if_pos (Nat.zero_le k)]
  obtain ⟨hF, hP⟩ := law_loop (xs := xs) hL 514 0 (Nat.zero_le _) (by omega)
  obtain ⟨j1, q2, j2, j3⟩ := init_T 301 0 302 (fun _ => 0) rfl (by decide)
  rw [nI_0] at j1 j2
  have j4 : ∀ k, k < 301 → q2 k = -1 := fun k hk => by rw [j3 k hk, if_pos (Nat.zero_le k)]
  have e3 : f_X3_init = (q, q2) := by
    unfold f_X3_init
    rw [i2]
    dsimp only
    rw [j2]
  have e4 : f_X4_init = ((fun _ => 0), (fun _ => 0), (fun _ => 0), (fun _ => 0), 0, (fun _ => 0), (fun _ => 0), (fun _ => 0), (fun _ => 0), (fun _ => 0), 0, q, q2) := by
    unfold f_X4_init
    rw [e3]
    rfl
  have p3 : p_X3_init := ⟨i1, fun _ _ _ => ⟨j1, fun _ _ _ => trivial⟩⟩
  refine ⟨?_, ⟨fun _ _ _ _ _ _ _ _ _ _ _ => ⟨p3, fun _ _ _ => trivial⟩, ?_⟩⟩
  · unfold f_L_law
    rw [e4]
    exact hF 0 0 0 0 0 _ _ _ _ _ _ _ _ _ _ _ _ _ _ _ _ _ _ (rel0 i4 j4)
  · intro _ _ _ _ _ _ _ _ _ _ _ _ _ e _ _ _ _ _ _ _ _ _ _ _ e5
    rw [e4] at e
    unfold f_X5_init at e5
    cases e
    cases e5
    exact hP 0 0 0 0 0 _ _ _ _ _ _ _ _ _ _ _ _ _ _ _ _ _ _ (rel0 i4 j4)
