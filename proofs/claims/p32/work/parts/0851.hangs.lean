/-! ===== needs, what depends and heights fit one another ===== -/
theorem Rc_one {N : Nat → Nat → Prop} {i j : Nat} : Rc N i j ↔ N i j ∨ ∃ k, k < 14 ∧ N i k ∧ Rc N k j := by
  constructor
  · rintro ⟨n, hw⟩
    match n, hw with
    | 0, hw => exact Or.inl hw
    | n + 1, ⟨k, hk, h1, h2⟩ => exact Or.inr ⟨k, hk, h1, n, h2⟩
  · rintro (h | ⟨k, hk, h1, n, h2⟩)
    · exact ⟨0, h⟩
    · exact ⟨n + 1, k, hk, h1, h2⟩
theorem Lv.cons {g : AA} (hg : RM g) {i t j : Nat} (hi : i < 14) : Lv g i (t + 1) j ↔ ∃ k, k < 14 ∧ NR g i k ∧ Lv g k t j := by
  match t with
  | 0 =>
    constructor
    · intro h
      exact ⟨j, NR.lt hg hi h, h, rfl⟩
    · rintro ⟨k, _, h1, h2⟩
      have e : j = k := h2
      subst e
      exact h1
  | t + 1 => exact Iff.rfl
theorem Lv.pre {g : AA} {i t j s : Nat} (h : Lv g i t j) (hs : s ≤ t) : ∃ k, Lv g i s k := by
  rcases Nat.lt_or_ge s t with q | q
  · match s, t, h, q with
    | 0, _, _, _ => exact ⟨i, rfl⟩
    | s + 1, t + 1, h, q =>
      obtain ⟨k, _, h2⟩ := Wy.pre (show Wy (NR g) t i j from h) s (by omega)
      exact ⟨k, h2⟩
  · rw [show s = t by omega]; exact ⟨j, h⟩
/-- the greatest height of the first j of those needed, and 1 -/
def HM (g : AA) (a j m : Nat) : Prop := (∀ k, k < j → NR g a k → Hh g k + 1 ≤ m) ∧ (m = 0 ∨ ∃ k, k < j ∧ NR g a k ∧ m = Hh g k + 1)
theorem HM.all {g : AA} (hg : RM g) (hac : Ac (NR g)) {a m : Nat} (ha : a < 14) (h : HM g a 14 m) : m = Hh g a := by
  have top : ∀ j, ¬ Lv g a (m + 1) j := fun j hj => by
    obtain ⟨k, hk, h1, h2⟩ := (Lv.cons hg ha).mp hj
    obtain ⟨-, -, -, -, h3⟩ := q_height hg hac hk
    obtain ⟨x, hx⟩ := h2.pre (h.1 k hk h1)
    exact h3 x hx
  refine Hg.one ⟨fun s hs => ?_, top⟩ (q_height hg hac ha).2.2.2
  match s, hs with
  | 0, _ => exact ⟨a, rfl⟩
  | s + 1, hs =>
    rcases h.2 with h0 | ⟨k, hk, h1, h2⟩
    · omega
    · obtain ⟨-, -, -, h3, -⟩ := q_height hg hac hk
      obtain ⟨x, hx⟩ := h3 s (by omega)
      exact ⟨x, (Lv.cons hg ha).mpr ⟨k, hk, h1, hx⟩⟩
theorem by_L (gn gb : AA) {a b : Nat} (ha : a < 14) (hb : b < 14) : ∀ (c j n : Nat) (v : Int32), j + c = 14 → c < n → (v = 0 ∨ v = 1) →
    p_L_hangs_L81 gn gb (nI a) (nI b) n v (nI j) ∧ ∃ w, f_L_hangs_L81 gn gb (nI a) (nI b) n v (nI j) = (w, nI 14) ∧ (w = 0 ∨ w = 1) ∧ (w = 0 ↔ v = 0 ∧ ∀ k, j ≤ k → k < 14 → ¬ (bt (gn a) k = true ∧ bt (gb k) b = true)) := by
  intro c
  induction c with
  | zero =>
    intro j n v hj hn hv
    obtain ⟨n, rfl⟩ : ∃ k, n = k + 1 := ⟨n - 1, by omega⟩
    have e : j = 14 := by omega
    subst e
    refine ⟨?_, v, ?_, hv, ⟨fun q => ⟨q, fun k h1 h2 => by omega⟩, fun q => q.1⟩⟩
    · rw [p_L_hangs_L81]; exact ⟨fun _ => trivial, fun h => absurd y14 h⟩
    · rw [f_L_hangs_L81, if_pos y14]
  | succ c ih =>
    intro j n v hj hn hv
    obtain ⟨n, rfl⟩ : ∃ k, n = k + 1 := ⟨n - 1, by omega⟩
    have hj14 : j < 14 := by omega
    obtain ⟨pn, en⟩ := q_needs gn ha hj14
    obtain ⟨pd, ed⟩ := q_depends gb hj14 hb
    obtain ⟨z, hz⟩ : ∃ z : Int32, z = (if v = 0 then (if f_L_needs gn (nI a) (nI j) = 1 then (if f_L_depends gb (nI j) (nI b) = 1 then (1 : Int32) else (0 : Int32)) else (0 : Int32)) else (1 : Int32)) := ⟨_, rfl⟩
    have hz2 : (z = 0 ∨ z = 1) ∧ (z = 0 ↔ v = 0 ∧ ¬ (bt (gn a) j = true ∧ bt (gb j) b = true)) := by
      rw [hz, en, ed]
      rcases hv with e | e
      · rw [e, if_pos rfl]
        cases bt (gn a) j
        · rw [if_neg (fun c => by cases (b01 false).mp c)]
          exact ⟨Or.inl rfl, fun _ => ⟨rfl, fun q => by cases q.1⟩, fun _ => rfl⟩
        · rw [if_pos ((b01 true).mpr rfl)]
          cases bt (gb j) b
          · rw [if_neg (fun c => by cases (b01 false).mp c)]
            exact ⟨Or.inl rfl, fun _ => ⟨rfl, fun q => by cases q.2⟩, fun _ => rfl⟩
          · rw [if_pos ((b01 true).mpr rfl)]
            exact ⟨Or.inr rfl, fun q => absurd q (by decide), fun q => absurd ⟨rfl, rfl⟩ q.2⟩
      · rw [e, if_neg (by decide)]
        exact ⟨Or.inr rfl, fun q => absurd q (by decide), fun q => absurd q.1 (by decide)⟩
    obtain ⟨hz01, hz0⟩ := hz2
    obtain ⟨a1, w, a2, a3, a4⟩ := ih (j + 1) n z (by omega) (by omega) hz01
    refine ⟨?_, w, ?_, a3, ?_⟩
    · rw [p_L_hangs_L81]
      refine ⟨fun h => absurd h (n14 hj14), fun _ => ⟨⟨fun _ => ⟨pn, fun _ => ⟨pd, fun _ => trivial, fun _ => trivial⟩, fun _ => trivial⟩, fun _ => trivial⟩, fun y hy => ?_⟩⟩
      rw [← hz] at hy
      subst hy
      rw [nI_1]
      exact a1
    · rw [f_L_hangs_L81, if_neg (n14 hj14), ← hz, nI_1]
      exact a2
    · rw [a4, hz0]
      constructor
      · rintro ⟨⟨h1, h2⟩, h3⟩
        refine ⟨h1, fun k hk hk2 => ?_⟩
        rcases Nat.lt_or_ge j k with q | q
        · exact h3 k q hk2
        · rw [show k = j by omega]; exact h2
      · rintro ⟨h1, h2⟩
        exact ⟨⟨h1, h2 j (Nat.le_refl _) hj14⟩, fun k hk hk2 => h2 k (by omega) hk2⟩
theorem same01 {x y : Int32} (hx : x = 0 ∨ x = 1) (hy : y = 0 ∨ y = 1) (h : x = 0 ↔ y = 0) : x = y := by
  rcases hx with e | e
  · rw [e, h.mp e]
  · rcases hy with f | f
    · rw [h.mpr f] at e; exact absurd e (by decide)
    · rw [e, f]
theorem b_L {gn gu gb ga : AA} (h : GI gn gu gb ga) {a : Nat} (ha : a < 14) : ∀ (c j n m : Nat), j + c = 14 → c < n → m ≤ 14 → HM gn a j m →
    p_L_hangs_L19 gn gb (nI a) n 1 (nI m) (nI j) ∧ ∃ m', f_L_hangs_L19 gn gb (nI a) n 1 (nI m) (nI j) = (1, nI m', nI 14) ∧ m' ≤ 14 ∧ HM gn a 14 m' := by
  have k1 : ¬ (1 : Int32) = 0 := by decide
  intro c
  induction c with
  | zero =>
    intro j n m hj hn hm hM
    obtain ⟨n, rfl⟩ : ∃ k, n = k + 1 := ⟨n - 1, by omega⟩
    have e : j = 14 := by omega
    subst e
    refine ⟨?_, m, ?_, hm, hM⟩
    · rw [p_L_hangs_L19]; exact ⟨fun _ => trivial, fun h => absurd y14 h⟩
    · rw [f_L_hangs_L19, if_pos y14]
  | succ c ih =>
    intro j n m hj hn hm hM
    obtain ⟨n, rfl⟩ : ∃ k, n = k + 1 := ⟨n - 1, by omega⟩
    have hj14 : j < 14 := by omega
    obtain ⟨pn, en⟩ := q_needs gn ha hj14
    obtain ⟨pd, ed⟩ := q_depends gb ha hj14
    obtain ⟨ph, eh, hh14, -⟩ := q_height h.1 h.2.2.1 hj14
    obtain ⟨y8, h8⟩ : ∃ y : Int32, y = (if f_L_needs gn (nI a) (nI j) = 1 then (1 : Int32) else (0 : Int32)) := ⟨_, rfl⟩
    obtain ⟨y10, h10⟩ : ∃ y : Int32, y = (if y8 = 0 then nI m else (if f_L_height gn (nI j) + 1 ≤ nI m then nI m else f_L_height gn (nI j) + 1)) := ⟨_, rfl⟩
    have h82 : (y8 = 0 ∨ y8 = 1) ∧ (y8 = 0 ↔ ¬ NR gn a j) := by
      unfold NR
      rw [h8, en]
      cases bt (gn a) j
      · rw [if_neg (fun c => by cases (b01 false).mp c)]
        exact ⟨Or.inl rfl, fun _ q => (by cases q), fun _ => rfl⟩
      · rw [if_pos ((b01 true).mpr rfl)]
        exact ⟨Or.inr rfl, fun q => absurd q (by decide), fun q => absurd rfl q⟩
    obtain ⟨h801, h80⟩ := h82
    obtain ⟨m2, e10, m2l, hM2⟩ : ∃ m2, y10 = nI m2 ∧ m2 ≤ 14 ∧ HM gn a (j + 1) m2 := by
      by_cases c8 : y8 = 0
      · refine ⟨m, by rw [h10, if_pos c8], hm, fun k hk hk2 => ?_, ?_⟩
        · rcases Nat.lt_or_ge k j with q | q
          · exact hM.1 k q hk2
          · rw [show k = j by omega] at hk2; exact absurd hk2 (h80.mp c8)
        · rcases hM.2 with q | ⟨k, q1, q2⟩
          · exact Or.inl q
          · exact Or.inr ⟨k, by omega, q2⟩
      · have hNR : NR gn a j := Classical.byContradiction fun q => c8 (h80.mpr q)
        rw [if_neg c8, eh, nI_1] at h10
        by_cases c9 : Hh gn j + 1 ≤ m
        · rw [if_pos ((nI_leI (by omega) (by omega)).mpr c9)] at h10
          refine ⟨m, h10, hm, fun k hk hk2 => ?_, ?_⟩
          · rcases Nat.lt_or_ge k j with q | q
            · exact hM.1 k q hk2
            · rw [show k = j by omega]; exact c9
          · rcases hM.2 with q | ⟨k, q1, q2⟩
            · exact Or.inl q
            · exact Or.inr ⟨k, by omega, q2⟩
        · rw [if_neg (fun q => c9 ((nI_leI (by omega) (by omega)).mp q))] at h10
          refine ⟨Hh gn j + 1, h10, by omega, fun k hk hk2 => ?_, Or.inr ⟨j, by omega, hNR, rfl⟩⟩
          rcases Nat.lt_or_ge k j with q | q
          · have := hM.1 k q hk2; omega
          · rw [show k = j by omega]; exact Nat.le_refl _
    obtain ⟨b1, w, b2, b3, b4⟩ := by_L gn gb ha hj14 14 0 15 y8 rfl (by decide) h801
    rw [nI_0] at b1 b2
    obtain ⟨y24, h24⟩ : ∃ y : Int32, y = (if f_L_depends gb (nI a) (nI j) = 1 then (1 : Int32) else (0 : Int32)) := ⟨_, rfl⟩
    have hw0 : w = 0 ↔ ¬ Rc (NR gn) a j := by
      rw [b4, h80, Rc_one]
      constructor
      · rintro ⟨q1, q2⟩ (q | ⟨k, hk, q3, q4⟩)
        · exact q1 q
        · exact q2 k (Nat.zero_le _) hk ⟨q3, (h.2.2.2.2.2 k j hk hj14).1.mpr q4⟩
      · intro q
        exact ⟨fun z => q (Or.inl z), fun k _ hk z => q (Or.inr ⟨k, hk, z.1, (h.2.2.2.2.2 k j hk hj14).1.mp z.2⟩)⟩
    have hbt : bt (gb a) j = true ↔ Rc (NR gn) a j := (h.2.2.2.2.2 a j ha hj14).1
    have e24 : y24 = w := by
      have h242 : (y24 = 0 ∨ y24 = 1) ∧ (y24 = 0 ↔ ¬ bt (gb a) j = true) := by
        rw [h24, ed]
        cases bt (gb a) j
        · rw [if_neg (fun c => by cases (b01 false).mp c)]
          exact ⟨Or.inl rfl, fun _ q => (by cases q), fun _ => rfl⟩
        · rw [if_pos ((b01 true).mpr rfl)]
          exact ⟨Or.inr rfl, fun q => absurd q (by decide), fun q => absurd rfl q⟩
      exact same01 h242.1 b3 (by rw [h242.2, hw0, hbt])
    have e26 : (if y24 = w then (if nI a = nI j then (if w = 0 then (1 : Int32) else (0 : Int32)) else (1 : Int32)) else (0 : Int32)) = 1 := by
      rw [if_pos e24]
      by_cases c : nI a = nI j
      · have eaj : a = j := (nI_eq (by omega) (by omega)).mp c
        rw [if_pos c, if_pos (hw0.mpr (by rw [← eaj]; exact h.2.2.1 a ha))]
      · rw [if_neg c]
    obtain ⟨a1, m', a2, a3, a4⟩ := ih (j + 1) n m2 (by omega) (by omega) m2l hM2
    refine ⟨?_, m', ?_, a3, a4⟩
    · rw [p_L_hangs_L19]
      refine ⟨fun q => absurd q (n14 hj14), fun _ => ⟨fun _ => trivial, fun _ => ⟨pn, ⟨fun _ => trivial, fun _ => trivial⟩, fun z8 q8 => ?_⟩⟩⟩
      rw [← h8] at q8
      subst q8
      refine ⟨⟨fun _ => trivial, fun _ => ⟨ph, fun _ => trivial, fun _ => ⟨ph, trivial⟩⟩⟩, fun z10 q10 => ⟨b1, fun r1 r2 q15 => ⟨pd, ⟨fun _ => trivial, fun _ => trivial⟩, fun z24 q24 => ⟨⟨fun _ => ⟨fun _ => ⟨fun _ => trivial, fun _ => trivial⟩, fun _ => trivial⟩, fun _ => trivial⟩, fun z26 q26 => ?_⟩⟩⟩⟩
      rw [b2] at q15
      cases q15
      rw [← h24] at q24
      subst q24
      rw [e26] at q26
      subst q26
      rw [← h10, e10] at q10
      subst q10
      rw [nI_1]
      exact a1
    · rw [f_L_hangs_L19, if_neg (n14 hj14), if_neg k1, ← h8]
      dsimp only
      rw [b2]
      dsimp only
      rw [← h24, e26, ← h10, e10, nI_1]
      exact a2
theorem a_L {gn gu gb ga : AA} (h : GI gn gu gb ga) : ∀ (c j n : Nat), j + c = 14 → c < n → p_L_hangs_L4 gn gb n 1 (nI j) ∧ f_L_hangs_L4 gn gb n 1 (nI j) = (1, nI 14) := by
  have k1 : ¬ (1 : Int32) = 0 := by decide
  intro c
  induction c with
  | zero =>
    intro j n hj hn
    obtain ⟨n, rfl⟩ : ∃ k, n = k + 1 := ⟨n - 1, by omega⟩
    have e : j = 14 := by omega
    subst e
    refine ⟨?_, ?_⟩
    · rw [p_L_hangs_L4]; exact ⟨fun _ => trivial, fun h => absurd y14 h⟩
    · rw [f_L_hangs_L4, if_pos y14]
  | succ c ih =>
    intro j n hj hn
    obtain ⟨n, rfl⟩ : ∃ k, n = k + 1 := ⟨n - 1, by omega⟩
    have hj14 : j < 14 := by omega
    obtain ⟨ph, eh, -, -⟩ := q_height h.1 h.2.2.1 hj14
    obtain ⟨b1, m', b2, -, b4⟩ := b_L h hj14 14 0 15 0 rfl (by decide) (by decide) ⟨fun k hk => absurd hk (Nat.not_lt_zero _), Or.inl rfl⟩
    rw [nI_0] at b1 b2
    have em := b4.all h.1 h.2.2.1 hj14
    subst em
    have e30 : (if (1 : Int32) = 0 then (0 : Int32) else (if f_L_height gn (nI j) = nI (Hh gn j) then (1 : Int32) else (0 : Int32))) = 1 := by rw [if_neg k1, if_pos eh]
    obtain ⟨a1, a2⟩ := ih (j + 1) n (by omega) (by omega)
    refine ⟨?_, ?_⟩
    · rw [p_L_hangs_L4]
      refine ⟨fun q => absurd q (n14 hj14), fun _ => ⟨fun _ => trivial, fun _ => ⟨b1, fun r1 r2 r3 q => ?_⟩⟩⟩
      rw [b2] at q
      cases q
      refine ⟨⟨fun _ => trivial, fun _ => ⟨ph, fun _ => trivial, fun _ => trivial⟩⟩, fun z q => ?_⟩
      rw [e30] at q
      subst q
      rw [nI_1]
      exact a1
    · rw [f_L_hangs_L4, if_neg (n14 hj14), if_neg k1, b2]
      dsimp only
      rw [e30, nI_1]
      exact a2
theorem hangs_ok {gn gu gb ga : AA} (h : GI gn gu gb ga) : p_L_hangs gn gb ∧ f_L_hangs gn gb = 1 := by
  obtain ⟨a1, a2⟩ := a_L h 14 0 15 rfl (by decide)
  rw [nI_0] at a1 a2
  constructor
  · refine ⟨a1, fun x y q => ?_⟩
    rw [a2] at q
    cases q
    exact ⟨Or.inr rfl, trivial⟩
  · unfold f_L_hangs
    rw [a2]
