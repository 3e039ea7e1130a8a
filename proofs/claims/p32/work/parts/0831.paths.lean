theorem fb_holes : ∀ (m n : Nat) (f : Nat → Nat), (∀ i, i < n → f i < m) → (∀ i j, i < j → j < n → f i ≠ f j) → n ≤ m := by
  intro m
  induction m with
  | zero =>
    intro n f h1 _
    rcases Nat.eq_zero_or_pos n with h | h
    · omega
    · exact absurd (h1 0 h) (Nat.not_lt_zero _)
  | succ m ih =>
    intro n f h1 h2
    by_cases hx : ∃ i, i < n ∧ f i = m
    · obtain ⟨a, ha, hfa⟩ := hx
      have hg := ih (n - 1) (fun i => if i < a then f i else f (i + 1)) (by
        intro i hi
        by_cases q : i < a
        · simp only [if_pos q]
          have b1 := h1 i (by omega)
          have b2 := h2 i a q ha
          omega
        · simp only [if_neg q]
          have b1 := h1 (i + 1) (by omega)
          have b2 := h2 a (i + 1) (by omega) (by omega)
          omega) (by
        intro i j hij hj
        by_cases q : i < a
        · by_cases r : j < a
          · simp only [if_pos q, if_pos r]
            exact h2 i j hij (by omega)
          · simp only [if_pos q, if_neg r]
            exact h2 i (j + 1) (by omega) (by omega)
        · have r : ¬ j < a := by omega
          simp only [if_neg q, if_neg r]
          exact h2 (i + 1) (j + 1) (by omega) (by omega))
      omega
    · have hg := ih n f (fun i hi => by
        have b1 := h1 i hi
        have b2 : f i ≠ m := fun e => hx ⟨i, hi, e⟩
        omega) h2
      omega
/-- two of them in one place -/
theorem fb_twice {m n : Nat} {f : Nat → Nat} (h : ∀ i, i < n → f i < m) (hm : m < n) : ∃ i j, i < j ∧ j < n ∧ f i = f j := by
  refine Classical.byContradiction fun hx => ?_
  have := fb_holes m n f h (fun i j hij hj e => hx ⟨i, j, hij, hj, e⟩)
  omega
/-! ===== ways over 14 nodes ===== -/
/-- there is a way of n + 1 steps -/
def Wy (N : Nat → Nat → Prop) : Nat → Nat → Nat → Prop
  | 0, i, j => N i j
  | n + 1, i, j => ∃ k, k < 14 ∧ N i k ∧ Wy N n k j
def Rc (N : Nat → Nat → Prop) (i j : Nat) : Prop := ∃ n, Wy N n i j
theorem Wy.snoc {N : Nat → Nat → Prop} : ∀ {n i k j : Nat}, Wy N n i k → k < 14 → N k j → Wy N (n + 1) i j
  | 0, i, k, j, h, hk, hj => ⟨k, hk, h, hj⟩
  | n + 1, i, k, j, ⟨x, hx, h1, h2⟩, hk, hj => ⟨x, hx, h1, Wy.snoc h2 hk hj⟩
theorem Wy.unsnoc {N : Nat → Nat → Prop} : ∀ {n i j : Nat}, Wy N (n + 1) i j → ∃ k, k < 14 ∧ Wy N n i k ∧ N k j
  | 0, i, j, ⟨x, hx, h1, h2⟩ => ⟨x, hx, h1, h2⟩
  | n + 1, i, j, ⟨x, hx, h1, h2⟩ => by
    obtain ⟨k, hk, h3, h4⟩ := Wy.unsnoc h2
    exact ⟨k, hk, ⟨x, hx, h1, h3⟩, h4⟩
theorem Wy.app {N : Nat → Nat → Prop} : ∀ {a b i k j : Nat}, Wy N a i k → k < 14 → Wy N b k j → Wy N (a + 1 + b) i j
  | a, 0, i, k, j, h, hk, hj => Wy.snoc h hk hj
  | a, b + 1, i, k, j, h, hk, ⟨x, hx, h1, h2⟩ => by
    have h3 := Wy.app (Wy.snoc h hk h1) hx h2
    rw [show a + 1 + (b + 1) = a + 1 + 1 + b by omega]
    exact h3
theorem Rc.trans {N : Nat → Nat → Prop} {i k j : Nat} (h1 : Rc N i k) (hk : k < 14) (h2 : Rc N k j) : Rc N i j := by
  obtain ⟨a, ha⟩ := h1
  obtain ⟨b, hb⟩ := h2
  exact ⟨_, Wy.app ha hk hb⟩
theorem Wy.pre {N : Nat → Nat → Prop} : ∀ {n i j : Nat}, Wy N n i j → ∀ m, m < n → ∃ k, k < 14 ∧ Wy N m i k
  | 0, _, _, _, m, hm => absurd hm (Nat.not_lt_zero m)
  | n + 1, i, j, h, m, hm => by
    obtain ⟨k, hk, h1, h2⟩ := Wy.unsnoc h
    rcases Nat.lt_or_ge m n with q | q
    · exact Wy.pre h1 m q
    · exact ⟨k, hk, by rw [show m = n by omega]; exact h1⟩
/-- a way by its nodes -/
theorem Wy.nodes {N : Nat → Nat → Prop} : ∀ {n i j : Nat}, Wy N n i j → i < 14 → j < 14 → ∃ f : Nat → Nat, f 0 = i ∧ f (n + 1) = j ∧ (∀ k, k ≤ n → N (f k) (f (k + 1))) ∧ ∀ k, k ≤ n + 1 → f k < 14
  | 0, i, j, h, hi, hj => ⟨fun k => if k = 0 then i else j, rfl, rfl, fun k hk => by rw [show k = 0 by omega]; exact h, fun k _ => by
      show (if k = 0 then i else j) < 14
      split
      · exact hi
      · exact hj⟩
  | n + 1, i, j, ⟨x, hx, h1, h2⟩, hi, hj => by
    obtain ⟨f, f0, f1, f2, f3⟩ := Wy.nodes h2 hx hj
    refine ⟨fun k => match k with | 0 => i | k + 1 => f k, rfl, f1, fun k hk => ?_, fun k hk => ?_⟩
    · match k with
      | 0 => show N i (f 0); rw [f0]; exact h1
      | k + 1 => exact f2 k (by omega)
    · match k with
      | 0 => exact hi
      | k + 1 => exact f3 k (by omega)
theorem Wy.of {N : Nat → Nat → Prop} (f : Nat → Nat) : ∀ (d a : Nat), (∀ k, a ≤ k → k ≤ a + d → N (f k) (f (k + 1)) ∧ f (k + 1) < 14) → Wy N d (f a) (f (a + d + 1))
  | 0, a, h => (h a (Nat.le_refl _) (Nat.le_refl _)).1
  | d + 1, a, h => by
    refine ⟨f (a + 1), (h a (Nat.le_refl _) (by omega)).2, (h a (Nat.le_refl _) (by omega)).1, ?_⟩
    have h1 := Wy.of f d (a + 1) (fun k h1 h2 => h k (by omega) (by omega))
    rw [show a + (d + 1) + 1 = a + 1 + d + 1 by omega]
    exact h1
def Ac (N : Nat → Nat → Prop) : Prop := ∀ i, i < 14 → ¬ Rc N i i
/-- without rounds no way is long -/
theorem Wy.short {N : Nat → Nat → Prop} (ha : Ac N) {n i j : Nat} (h : Wy N n i j) (hi : i < 14) (hj : j < 14) : n < 13 := by
  rcases Nat.lt_or_ge n 13 with q | q
  · exact q
  · obtain ⟨f, f0, f1, f2, f3⟩ := h.nodes hi hj
    obtain ⟨a, b, hab, hb, e⟩ := fb_twice (m := 14) (n := n + 2) (f := f) (fun k hk => f3 k (by omega)) (by omega)
    have h1 := Wy.of (N := N) f (b - a - 1) a (fun k h1 h2 => ⟨f2 k (by omega), f3 (k + 1) (by omega)⟩)
    rw [show a + (b - a - 1) + 1 = b by omega, ← e] at h1
    exact absurd ⟨_, h1⟩ (ha (f a) (f3 a (by omega)))
theorem Rc.bound {N : Nat → Nat → Prop} (ha : Ac N) {i j : Nat} (hi : i < 14) (hj : j < 14) : Rc N i j ↔ ∃ n, n < 13 ∧ Wy N n i j := ⟨fun ⟨n, h⟩ => ⟨n, h.short ha hi hj, h⟩, fun ⟨n, _, h⟩ => ⟨n, h⟩⟩
theorem Wy.mono {N N' : Nat → Nat → Prop} (h : ∀ i j, N i j → N' i j) : ∀ {n i j : Nat}, Wy N n i j → Wy N' n i j
  | 0, _, _, hw => h _ _ hw
  | _ + 1, _, _, ⟨k, hk, h1, h2⟩ => ⟨k, hk, h _ _ h1, Wy.mono h h2⟩
theorem Rc.mono {N N' : Nat → Nat → Prop} (h : ∀ i j, N i j → N' i j) {i j : Nat} : Rc N i j → Rc N' i j := fun ⟨n, hw⟩ => ⟨n, hw.mono h⟩
/-- ways with one more link: either without it, or to its tail and from its head -/
theorem Rc.link {N : Nat → Nat → Prop} {a b : Nat} (ha : a < 14) (hb : b < 14) : ∀ {n i j : Nat}, i < 14 → Wy (fun x y => N x y ∨ (x = a ∧ y = b)) n i j → Rc N i j ∨ ((i = a ∨ Rc N i a) ∧ (j = b ∨ Rc N b j))
  | 0, i, j, hi, h => by
    rcases h with h | ⟨rfl, rfl⟩
    · exact Or.inl ⟨0, h⟩
    · exact Or.inr ⟨Or.inl rfl, Or.inl rfl⟩
  | n + 1, i, j, hi, ⟨k, hk, h1, h2⟩ => by
    rcases h1 with h1 | ⟨rfl, rfl⟩
    · rcases Rc.link ha hb hk h2 with h3 | ⟨h3, h4⟩
      · exact Or.inl (Rc.trans ⟨0, h1⟩ hk h3)
      · refine Or.inr ⟨Or.inr ?_, h4⟩
        rcases h3 with rfl | h3
        · exact ⟨0, h1⟩
        · exact Rc.trans ⟨0, h1⟩ hk h3
    · rcases Rc.link ha hb hk h2 with h3 | ⟨h3, h4⟩
      · exact Or.inr ⟨Or.inl rfl, Or.inr h3⟩
      · exact Or.inr ⟨Or.inl rfl, h4⟩
theorem Ac.link {N : Nat → Nat → Prop} (h : Ac N) {a b : Nat} (ha : a < 14) (hb : b < 14) (hab : a ≠ b) (hr : ¬ Rc N b a) : Ac (fun x y => N x y ∨ (x = a ∧ y = b)) := by
  rintro i hi ⟨n, hw⟩
  rcases Rc.link ha hb hi hw with h1 | ⟨h1, h2⟩
  · exact h i hi h1
  · rcases h1 with rfl | h1
    · rcases h2 with h2 | h2
      · exact hab h2
      · exact hr h2
    · rcases h2 with rfl | h2
      · exact hr h1
      · exact hr (Rc.trans h2 hi h1)
theorem Ac.mono {N N' : Nat → Nat → Prop} (h : Ac N) (hs : ∀ i j, N' i j → N i j) : Ac N' := fun i hi hr => h i hi (Rc.mono hs hr)
/-- ways backwards -/
theorem Wy.rev {N : Nat → Nat → Prop} : ∀ {n i j : Nat}, Wy N n i j → Wy (fun x y => N y x) n j i
  | 0, _, _, h => h
  | _ + 1, _, _, ⟨_, hk, h1, h2⟩ => Wy.snoc (Wy.rev h2) hk h1
theorem Rc.rev {N : Nat → Nat → Prop} {i j : Nat} : Rc (fun x y => N y x) j i ↔ Rc N i j := ⟨fun ⟨n, h⟩ => ⟨n, h.rev⟩, fun ⟨n, h⟩ => ⟨n, h.rev⟩⟩
