/-! ===== how large, what all explain, whether the best is the best ===== -/
theorem size_S (x : Int32) : ∀ (c j n : Nat), j + c = 14 → c < n → p_L_size_L4 x n (nI (cb x j)) (nI j) ∧ f_L_size_L4 x n (nI (cb x j)) (nI j) = (nI (cn x), nI 14) := by
  intro c
  induction c with
  | zero =>
    intro j n hj hn
    obtain ⟨n, rfl⟩ : ∃ k, n = k + 1 := ⟨n - 1, by omega⟩
    have e : j = 14 := by omega
    subst e
    refine ⟨?_, ?_⟩
    · rw [p_L_size_L4]; exact ⟨fun _ => trivial, fun h => absurd y14 h⟩
    · rw [f_L_size_L4, if_pos y14]; rfl
  | succ c ih =>
    intro j n hj hn
    obtain ⟨n, rfl⟩ : ∃ k, n = k + 1 := ⟨n - 1, by omega⟩
    have hj14 : j < 14 := by omega
    have e : nI (cb x j) + ((x >>> (nI j &&& 31)) &&& 1) = nI (cb x (j + 1)) := by
      rw [shr1 x (by omega), cb]
      cases bt x j
      · exact nI_add _ 0
      · exact nI_add _ 1
    obtain ⟨a1, a2⟩ := ih (j + 1) n (by omega) (by omega)
    refine ⟨?_, ?_⟩
    · rw [p_L_size_L4]
      exact ⟨fun q => absurd q (n14 hj14), fun _ => by rw [e, nI_1]; exact a1⟩
    · rw [f_L_size_L4, if_neg (n14 hj14), e, nI_1]; exact a2
theorem q_size (x : Int32) : p_L_size x ∧ f_L_size x = nI (cn x) := by
  obtain ⟨a1, a2⟩ := size_S x 14 0 15 rfl (by decide)
  have e : nI (cb x 0) = 0 := nI_0
  rw [e, nI_0] at a1 a2
  refine ⟨⟨a1, fun _ _ _ => trivial⟩, ?_⟩
  unfold f_L_size
  rw [a2]
theorem all_S (kl : AA) (a : Int32) : ∀ (c j n : Nat) (v : Int32), j + c = 14 → c < n →
    p_L_all_L4 kl a n v (nI j) ∧ ∃ w, f_L_all_L4 kl a n v (nI j) = (w, nI 14) ∧ ∀ t, (bt w t = true ↔ bt v t = true ∨ ∃ i, j ≤ i ∧ i < 14 ∧ (bt a i = true ∧ bt (kl i) t = true)) := by
  intro c
  induction c with
  | zero =>
    intro j n v hj hn
    obtain ⟨n, rfl⟩ : ∃ k, n = k + 1 := ⟨n - 1, by omega⟩
    have e : j = 14 := by omega
    subst e
    refine ⟨?_, v, ?_, fun t => ⟨Or.inl, ?_⟩⟩
    · rw [p_L_all_L4]; exact ⟨fun _ => trivial, fun h => absurd y14 h⟩
    · rw [f_L_all_L4, if_pos y14]
    · rintro (h | ⟨i, h1, h2, _⟩)
      · exact h
      · omega
  | succ c ih =>
    intro j n v hj hn
    obtain ⟨n, rfl⟩ : ∃ k, n = k + 1 := ⟨n - 1, by omega⟩
    have hj14 : j < 14 := by omega
    have hs := sh1 a (n := j) (by omega)
    obtain ⟨z, hz⟩ : ∃ z : Int32, z = (if (a >>> (nI j &&& 31)) &&& 1 = 1 then kl (nI j).toNatClampNeg else (0 : Int32)) := ⟨_, rfl⟩
    have hzb : ∀ t, bt z t = true ↔ bt a j = true ∧ bt (kl j) t = true := fun t => by
      rw [hz, cl (by omega)]
      by_cases c1 : (a >>> (nI j &&& 31)) &&& 1 = 1
      · rw [if_pos c1]
        exact ⟨fun q => ⟨hs.mp c1, q⟩, fun q => q.2⟩
      · rw [if_neg c1, b_0]
        exact ⟨fun q => (by cases q), fun q => absurd (hs.mpr q.1) c1⟩
    obtain ⟨a1, w, a2, a3⟩ := ih (j + 1) n (v ||| z) (by omega) (by omega)
    refine ⟨?_, w, ?_, fun t => ?_⟩
    · rw [p_L_all_L4]
      refine ⟨fun q => absurd q (n14 hj14), fun _ => ⟨⟨fun _ => ⟨in14 hj14, trivial⟩, fun _ => trivial⟩, fun y q => ?_⟩⟩
      rw [← hz] at q
      subst q
      rw [nI_1]
      exact a1
    · rw [f_L_all_L4, if_neg (n14 hj14), ← hz, nI_1]; exact a2
    · rw [a3 t, in_or (p := fun i => bt a i = true ∧ bt (kl i) t = true) (q := fun _ => True) (j := j), b_or, Bool.or_eq_true, hzb t]
      constructor
      · rintro ((q | q) | q)
        · exact Or.inl q
        · exact Or.inr (Or.inl ⟨hj14, q⟩)
        · exact Or.inr (Or.inr q)
      · rintro (q | q | q)
        · exact Or.inl (Or.inl q)
        · exact Or.inl (Or.inr q.2)
        · exact Or.inr q
theorem q_all (kl : AA) (a : Int32) : p_L_all kl a ∧ ∀ t, (bt (f_L_all kl a) t = true ↔ ∃ i, i < 14 ∧ bt a i = true ∧ bt (kl i) t = true) := by
  obtain ⟨h1, w, h2, h3⟩ := all_S kl a 14 0 15 0 rfl (by decide)
  rw [nI_0] at h1 h2
  refine ⟨⟨h1, fun _ _ _ => trivial⟩, fun t => ?_⟩
  have e : f_L_all kl a = w := by unfold f_L_all; rw [h2]
  rw [e, h3 t, b_0]
  constructor
  · rintro (q | ⟨i, _, h4, h5⟩)
    · cases q
    · exact ⟨i, h4, h5⟩
  · rintro ⟨i, h4, h5⟩
    exact Or.inr ⟨i, Nat.zero_le _, h4, h5⟩
/-- the place below j -/
def km : Nat → Int32
  | 0 => -1
  | j + 1 => nI j
theorem km_1 : ∀ j, nI j + (-1) = km j
  | 0 => by decide +kernel
  | j + 1 => pk_m1 j
theorem low_S (b s : Int32) : ∀ (j n : Nat) (lo : Int32), j ≤ 14 → j < n → p_L_isBest_L99 b s n lo (km j) ∧ ∃ lo', f_L_isBest_L99 b s n lo (km j) = (lo', -1) ∧
    ((∃ k, k < j ∧ ¬ bt s k = bt b k) → ∃ k, k < j ∧ lo' = nI k ∧ ¬ bt s k = bt b k ∧ ∀ i, i < k → bt s i = bt b i) ∧ ((∀ k, k < j → bt s k = bt b k) → lo' = lo) := by
  intro j
  induction j with
  | zero =>
    intro n lo _ hn
    obtain ⟨n, rfl⟩ : ∃ k, n = k + 1 := ⟨n - 1, by omega⟩
    have l : km 0 < 0 := by decide +kernel
    refine ⟨?_, lo, ?_, fun ⟨k, hk, _⟩ => absurd hk (Nat.not_lt_zero _), fun _ => rfl⟩
    · rw [p_L_isBest_L99]; exact ⟨fun _ => trivial, fun q => absurd l q⟩
    · rw [f_L_isBest_L99, if_pos l]; rfl
  | succ j ih =>
    intro n lo hj hn
    obtain ⟨n, rfl⟩ : ∃ k, n = k + 1 := ⟨n - 1, by omega⟩
    have l : ¬ nI j < 0 := nI_pos (by omega)
    have ek : km (j + 1) = nI j := rfl
    rw [ek]
    obtain ⟨z, hz⟩ : ∃ z : Int32, z = (if (s >>> (nI j &&& 31)) &&& 1 = (b >>> (nI j &&& 31)) &&& 1 then lo else nI j) := ⟨_, rfl⟩
    have hc : (s >>> (nI j &&& 31)) &&& 1 = (b >>> (nI j &&& 31)) &&& 1 ↔ bt s j = bt b j := by
      rw [shr1 s (by omega), shr1 b (by omega)]
      cases bt s j <;> cases bt b j <;> decide +kernel
    obtain ⟨a1, lo', a2, a3, a4⟩ := ih n z (by omega) (by omega)
    refine ⟨?_, lo', ?_, ?_, ?_⟩
    · rw [p_L_isBest_L99]
      refine ⟨fun q => absurd q l, fun _ => ⟨⟨fun _ => trivial, fun _ => trivial⟩, fun y q => ?_⟩⟩
      rw [← hz] at q
      subst q
      rw [km_1]
      exact a1
    · rw [f_L_isBest_L99, if_neg l, ← hz, km_1]; exact a2
    · rintro ⟨k, hk, hk2⟩
      by_cases w : ∃ k, k < j ∧ ¬ bt s k = bt b k
      · obtain ⟨x, x1, x2⟩ := a3 w
        exact ⟨x, by omega, x2⟩
      · have hall : ∀ i, i < j → bt s i = bt b i := fun i hi => Classical.byContradiction fun q => w ⟨i, hi, q⟩
        have e : k = j := by
          rcases Nat.lt_or_ge k j with q | q
          · exact absurd (hall k q) hk2
          · omega
        subst e
        exact ⟨k, hk, by rw [a4 hall, hz, if_neg (fun q => hk2 (hc.mp q))], hk2, hall⟩
    · intro hall
      rw [a4 (fun k hk => hall k (by omega)), hz, if_pos (hc.mpr (hall j (Nat.lt_succ_self _)))]
theorem M14.ofN {s : Nat} (hs : s < 16384) : M14 (nI s) := fun i hi => by
  rw [bt_nI (by omega)]
  exact Nat.testBit_lt_two_pow (Nat.lt_of_lt_of_le (show s < 2 ^ 14 from hs) (Nat.pow_le_pow_right (by decide) hi))
/-- what the law's own list of what each node explains says -/
def EE (ga kl : AA) : Prop := ∀ k, k < 14 → kl k = f_X1_explainedBy ga (nI k)
theorem all_EX {gn gu gb ga kl : AA} (h : GI gn gu gb ga) (hE : EE ga kl) {r s : Int32} (hr : M14 r) : (f_L_all kl s &&& r) = r ↔ EX gb r s := by
  have hx : ∀ {k o : Nat}, k < 14 → o < 14 → (bt (kl o) k = true ↔ (o = k ∨ bt (gb k) o = true)) := fun {k o} hk ho => by
    rw [hE o ho, explainedBy_b ho]
    exact or_congr ⟨fun q => q.symm, fun q => q.symm⟩ (h.ba hk ho)
  constructor
  · intro e k hk hb
    have h1 : bt (f_L_all kl s &&& r) k = true := by rw [e]; exact hb
    rw [b_and, Bool.and_eq_true] at h1
    obtain ⟨o, ho, h2, h3⟩ := ((q_all kl s).2 k).mp h1.1
    exact ⟨o, ho, h2, (hx hk ho).mp h3⟩
  · intro q
    refine M14.extT (hr.andR _) hr fun k hk => ?_
    rw [b_and, Bool.and_eq_true]
    refine ⟨fun z => z.2, fun z => ⟨?_, z⟩⟩
    obtain ⟨o, ho, h2, h3⟩ := q k hk z
    exact ((q_all kl s).2 k).mpr ⟨o, ho, h2, (hx hk ho).mpr h3⟩
theorem cnT {x y : Int32} : nI (cn x) < nI (cn y) ↔ cn x < cn y := nI_ltI (by have := cn_le x; omega) (by have := cn_le y; omega)
theorem y16 : (16384 : Int32) ≤ nI 16384 := (nI_leI (a := 16384) (b := 16384) (by decide) (by decide)).mpr (Nat.le_refl _)
theorem n16 {s : Nat} (h : s < 16384) : ¬ (16384 : Int32) ≤ nI s := fun q => by
  have := (nI_leI (a := 16384) (b := s) (by decide) (by omega)).mp q
  omega
theorem best_S {gn gu gb ga kl : AA} (h : GI gn gu gb ga) (hE : EE ga kl) {r p b : Int32} (hr : M14 r) (hp : M14 p) (hB : Bst gb r p b) : ∀ (c s n : Nat), s + c = 16384 → c < n → p_L_isBest_L29 kl p r b n 1 (nI s) ∧ f_L_isBest_L29 kl p r b n 1 (nI s) = (1, nI 16384) := by
  have k1 : ¬ (1 : Int32) = 0 := by decide
  have hbM : M14 b := hB.1.1.M hp
  intro c
  induction c with
  | zero =>
    intro s n hs hn
    obtain ⟨n, rfl⟩ : ∃ k, n = k + 1 := ⟨n - 1, by omega⟩
    have e : s = 16384 := by omega
    subst e
    refine ⟨?_, ?_⟩
    · rw [p_L_isBest_L29]; exact ⟨fun _ => trivial, fun q => absurd y16 q⟩
    · rw [f_L_isBest_L29, if_pos y16]
  | succ c ih =>
    intro s n hs hn
    obtain ⟨n, rfl⟩ : ∃ k, n = k + 1 := ⟨n - 1, by omega⟩
    have hs2 : s < 16384 := by omega
    have l := n16 hs2
    have hsM := M14.ofN hs2
    obtain ⟨a1, a2⟩ := ih (s + 1) n (by omega) (by omega)
    obtain ⟨z1, e1⟩ := q_size (nI s)
    obtain ⟨z2, e2⟩ := q_size b
    obtain ⟨z3, e3⟩ := q_size (nI s &&& r)
    obtain ⟨z4, e4⟩ := q_size (b &&& r)
    obtain ⟨z5, -⟩ := q_all kl (nI s)
    obtain ⟨l1, lo, l2, l3, -⟩ := low_S b (nI s) 14 15 0 (Nat.le_refl _) (by decide)
    have ek : km 14 = (13 : Int32) := rfl
    rw [ek] at l1 l2
    have main : nI s &&& (p ^^^ (-1)) = 0 → ¬ f_L_size b < f_L_size (nI s) → f_L_all kl (nI s) &&& r = r → (if f_L_size (nI s) = f_L_size b then (if f_L_size (nI s &&& r) < f_L_size (b &&& r) then (1 : Int32) else (if f_L_size (nI s &&& r) = f_L_size (b &&& r) then (if nI s = b then (1 : Int32) else (if (b >>> (lo &&& 31)) &&& 1 = 1 then (1 : Int32) else (0 : Int32))) else (0 : Int32))) else (0 : Int32)) = 1 := by
      intro c1 c2 c3
      have hD : Dg gb r p (nI s) := ⟨fun k hk => (sub_iff hsM).mp c1 k (hsM.lt hk) hk, (all_EX h hE hr).mp c3⟩
      have hN := hB.2 _ hD
      rw [e1, e2, cnT] at c2
      unfold Btr at hN
      have f1 : cn (nI s) = cn b := by omega
      rw [e1, e2, if_pos (cnI.mpr f1), e3, e4]
      by_cases f2 : cn (nI s &&& r) < cn (b &&& r)
      · rw [if_pos (cnT.mpr f2)]
      · have f3 : cn (nI s &&& r) = cn (b &&& r) := by omega
        rw [if_neg (fun q => f2 (cnT.mp q)), if_pos (cnI.mpr f3)]
        by_cases f4 : nI s = b
        · rw [if_pos f4]
        · rw [if_neg f4]
          have hd : ∃ k, k < 14 ∧ ¬ bt (nI s) k = bt b k := Classical.byContradiction fun w => f4 (M14.ext hsM hbM fun i hi => Classical.byContradiction fun q => w ⟨i, hi, q⟩)
          obtain ⟨k, k1, k2, k3, k4⟩ := l3 hd
          rw [k2]
          have hx1 : bt (nI s ^^^ b) k = true := by
            rw [b_xor]
            revert k3
            cases bt (nI s) k <;> cases bt b k <;> simp
          have hx2 : ∀ i, i < k → bt (nI s ^^^ b) i = false := fun i hi => by
            rw [b_xor, k4 i hi]
            cases bt b i <;> rfl
          rcases rv_of_diff k1 hx1 hx2 with ⟨g1, g2⟩ | ⟨g1, g2⟩
          · omega
          · have : bt b k = true := by
              revert k3
              rw [g1]
              cases bt b k <;> simp
            rw [if_pos ((sh1 b (by omega)).mpr this)]
    refine ⟨?_, ?_⟩
    · rw [p_L_isBest_L29]
      refine ⟨fun q => absurd q l, fun _ => ⟨fun _ => trivial, fun _ => ⟨fun c1 => ⟨z1, z2, fun _ => by rw [nI_1]; exact a1, fun c2 => ⟨z5, fun c3 => ⟨z3, z4, l1, fun x y q => ?_⟩, fun _ => by rw [nI_1]; exact a1⟩⟩, fun _ => by rw [nI_1]; exact a1⟩⟩⟩
      rw [l2] at q
      cases q
      refine ⟨z1, z2, ⟨fun _ => ⟨fun _ => trivial, fun _ => ⟨fun _ => ⟨fun _ => trivial, fun _ => ⟨fun _ => trivial, fun _ => trivial⟩⟩, fun _ => trivial⟩⟩, fun _ => trivial⟩, fun y q => ?_⟩
      rw [main c1 c2 c3] at q
      subst q
      rw [nI_1]
      exact a1
    · rw [f_L_isBest_L29, if_neg l, if_neg k1]
      by_cases c1 : nI s &&& (p ^^^ (-1)) = 0
      · rw [if_pos c1]
        by_cases c2 : f_L_size b < f_L_size (nI s)
        · rw [if_pos c2, nI_1]; exact a2
        · rw [if_neg c2]
          by_cases c3 : f_L_all kl (nI s) &&& r = r
          · rw [if_pos c3, l2]
            dsimp only
            rw [main c1 c2 c3, nI_1]
            exact a2
          · rw [if_neg c3, nI_1]; exact a2
      · rw [if_neg c1, nI_1]; exact a2
theorem q_isBest {gn gu gb ga kl : AA} (h : GI gn gu gb ga) (hE : EE ga kl) {r p b : Int32} (hr : M14 r) (hp : M14 p) (hB : Bst gb r p b) : p_L_isBest kl p r b ∧ f_L_isBest kl p r b = 1 := by
  have hbM : M14 b := hB.1.1.M hp
  obtain ⟨a1, a2⟩ := best_S h hE hr hp hB 16384 0 16385 (by decide) (by decide)
  rw [nI_0] at a1 a2
  have c1 : b &&& (p ^^^ (-1)) = 0 := (sub_iff hbM).mpr fun t _ ht => hB.1.1 t ht
  have c2 : f_L_all kl b &&& r = r := (all_EX h hE hr).mpr hB.1.2
  have e : (if b &&& (p ^^^ (-1)) = 0 then (if f_L_all kl b &&& r = r then (1 : Int32) else (0 : Int32)) else (0 : Int32)) = 1 := by rw [if_pos c1, if_pos c2]
  constructor
  · refine ⟨⟨fun _ => ⟨(q_all kl b).1, fun _ => trivial, fun _ => trivial⟩, fun _ => trivial⟩, fun y q => ?_⟩
    rw [e] at q
    subst q
    refine ⟨a1, fun x y q => ?_⟩
    rw [a2] at q
    cases q
    exact ⟨Or.inr rfl, trivial⟩
  · unfold f_L_isBest
    rw [e]
    dsimp only
    rw [a2]
