/-! ===== heights ===== -/
def Hg (g : AA) (i h : Nat) : Prop := (∀ s, s ≤ h → ∃ j, Lv g i s j) ∧ ∀ j, ¬ Lv g i (h + 1) j
theorem Hg.one {g : AA} {i h h' : Nat} (a : Hg g i h) (b : Hg g i h') : h = h' := by
  rcases Nat.lt_trichotomy h h' with q | q | q
  · obtain ⟨j, hj⟩ := b.1 (h + 1) q
    exact absurd hj (a.2 j)
  · exact q
  · obtain ⟨j, hj⟩ := a.1 (h' + 1) q
    exact absurd hj (b.2 j)
theorem Lv.lt {g : AA} (hg : RM g) {i : Nat} (hi : i < 14) : ∀ {t j : Nat}, Lv g i t j → j < 14
  | 0, j, h => by rw [show j = i from h]; exact hi
  | t + 1, j, h => by
    match t, h with
    | 0, h => exact NR.lt hg hi h
    | t + 1, h =>
      obtain ⟨k, hk, _, h2⟩ := Wy.unsnoc (show Wy (NR g) (t + 1) i j from h)
      exact NR.lt hg hk h2
theorem Lv.none14 {g : AA} (hg : RM g) (ha : Ac (NR g)) {i : Nat} (hi : i < 14) {t j : Nat} (ht : 14 ≤ t) : ¬ Lv g i t j := fun h => by
  have hj := Lv.lt hg hi h
  obtain ⟨t, rfl⟩ : ∃ k, t = k + 1 := ⟨t - 1, by omega⟩
  have := Wy.short ha (show Wy (NR g) t i j from h) hi hj
  omega
theorem Lv.z {g : AA} {i t : Nat} {x : Int32} (hx : M14 x) (h : ∀ j, bt x j = true ↔ Lv g i t j) : x = 0 ↔ ∀ j, ¬ Lv g i t j := by
  constructor
  · intro e j hj
    have := (h j).mpr hj
    rw [e, b_0] at this
    cases this
  · intro hn
    refine (z_iff hx).mpr fun j _ => ?_
    cases hb : bt x j
    · rfl
    · exact absurd ((h j).mp hb) (hn j)
theorem Lv.nz {g : AA} {i t : Nat} {x : Int32} (hx : M14 x) (h : ∀ j, bt x j = true ↔ Lv g i t j) (hne : ¬ x = 0) : ∃ j, Lv g i t j := by
  obtain ⟨j, _, hj⟩ := (nz_iff hx).mp hne
  exact ⟨j, (h j).mp hj⟩
theorem lwd_L {g : AA} (hg : RM g) (ha : Ac (NR g)) {i : Nat} (hi : i < 14) : ∀ (r t n : Nat) (x : Int32), t + r = 14 → r < n → M14 x → (∀ j, bt x j = true ↔ Lv g i (t + 1) j) → (∀ s, s ≤ t → ∃ j, Lv g i s j) →
    p_X1_longestWayDown_L14 g n (nI t) x ∧ ∃ h y, f_X1_longestWayDown_L14 g n (nI t) x = (nI h, y) ∧ h < 14 ∧ Hg g i h := by
  intro r
  induction r with
  | zero =>
    intro t n x ht hn hx h1 h2
    obtain ⟨j, hj⟩ := h2 t (Nat.le_refl _)
    exact absurd hj (Lv.none14 hg ha hi (by omega))
  | succ r ih =>
    intro t n x ht hn hx h1 h2
    obtain ⟨n, rfl⟩ : ∃ k, n = k + 1 := ⟨n - 1, by omega⟩
    have ht14 : t < 14 := by omega
    by_cases c : x = 0
    · refine ⟨?_, t, x, ?_, ht14, h2, (Lv.z hx h1).mp c⟩
      · rw [p_X1_longestWayDown_L14]; exact ⟨fun _ => trivial, fun h => absurd c h⟩
      · rw [f_X1_longestWayDown_L14, if_pos c]
    · obtain ⟨a1, h, y, a2, a3, a4⟩ := ih (t + 1) n (f_X1_step g x) (by omega) (by omega) (step_M hg _) (Lv.next hi h1 hx) (fun s hs => by
        rcases Nat.lt_or_ge t s with q | q
        · rw [show s = t + 1 by omega]; exact Lv.nz hx h1 c
        · exact h2 s q)
      refine ⟨?_, h, y, ?_, a3, a4⟩
      · rw [p_X1_longestWayDown_L14]
        exact ⟨fun h => absurd h c, fun _ => ⟨fun h => absurd h (n14 ht14), fun _ => ⟨(step_spec g x).1, by rw [nI_1]; exact a1⟩⟩⟩
      · rw [f_X1_longestWayDown_L14, if_neg c, if_neg (n14 ht14), nI_1]; exact a2
theorem lwd_spec {g : AA} (hg : RM g) (ha : Ac (NR g)) {i : Nat} (hi : i < 14) : p_X1_longestWayDown g (nI i) ∧ ∃ h, f_X1_longestWayDown g (nI i) = nI h ∧ h < 14 ∧ Hg g i h := by
  have h0 : ∀ j, bt (f_X4_only (nI i)) j = true ↔ Lv g i 0 j := fun j => only_bT hi
  obtain ⟨a1, h, y, a2, a3, a4⟩ := lwd_L hg ha hi 14 0 15 _ rfl (by decide) (step_M hg _) (Lv.next hi h0 (only_M hi)) (fun s hs => ⟨i, by rw [show s = 0 by omega]; rfl⟩)
  rw [nI_0] at a1 a2
  refine ⟨⟨(step_spec _ _).1, a1, fun _ _ _ => trivial⟩, h, ?_, a3, a4⟩
  unfold f_X1_longestWayDown
  rw [a2]
theorem height_L30 (kl : AA) (a : Int32) : ∀ (r j n : Nat) (v : Int32), j + r = 14 → r < n →
    p_X5_height_L30 kl a n v (nI j) ∧ ∃ w, f_X5_height_L30 kl a n v (nI j) = (w, nI 14) ∧ ∀ t, (bt w t = true ↔ bt v t = true ∨ ∃ i, j ≤ i ∧ i < 14 ∧ (bt a i = true ∧ bt (kl i) t = true)) := by
  intro r
  induction r with
  | zero =>
    intro j n v hj hn
    obtain ⟨n, rfl⟩ : ∃ k, n = k + 1 := ⟨n - 1, by omega⟩
    have e : j = 14 := by omega
    subst e
    refine ⟨?_, v, ?_, fun t => ⟨Or.inl, ?_⟩⟩
    · rw [p_X5_height_L30]; exact ⟨fun _ => trivial, fun h => absurd y14 h⟩
    · rw [f_X5_height_L30, if_pos y14]
    · rintro (h | ⟨i, h1, h2, _⟩)
      · exact h
      · omega
  | succ r ih =>
    intro j n v hj hn
    obtain ⟨n, rfl⟩ : ∃ k, n = k + 1 := ⟨n - 1, by omega⟩
    have hj14 : j < 14 := by omega
    have hh := has5_0 a (n := j) (by omega)
    obtain ⟨y, hy⟩ : ∃ y, y = (if f_X5_has a (nI j) = 0 then (0 : Int32) else kl j) := ⟨_, rfl⟩
    have hyb : ∀ t, bt y t = true ↔ bt a j = true ∧ bt (kl j) t = true := fun t => by
      rw [hy]
      cases hb : bt a j
      · rw [if_pos (hh.mpr hb), b_0]; simp
      · rw [if_neg (fun c => by rw [hh.mp c] at hb; cases hb)]; simp
    obtain ⟨h1, w, h2, h3⟩ := ih (j + 1) n (v ||| y) (by omega) (by omega)
    refine ⟨?_, w, ?_, fun t => ?_⟩
    · rw [p_X5_height_L30]
      refine ⟨fun h => absurd h (n14 hj14), fun _ => ?_⟩
      rw [cl (j := j) (by omega), ← hy, nI_1]
      refine ⟨⟨fun _ => trivial, fun _ => ⟨in14 hj14, trivial⟩⟩, fun z hz => ?_⟩
      rw [← hz]
      exact h1
    · rw [f_X5_height_L30, if_neg (n14 hj14), cl (j := j) (by omega), ← hy, nI_1]
      exact h2
    · rw [h3 t, in_or (p := fun i => bt a i = true ∧ bt (kl i) t = true) (q := fun _ => True) (j := j), b_or, Bool.or_eq_true, hyb t]
      simp [hj14, or_assoc]
theorem height_L20 {g : AA} (hg : RM g) (ha : Ac (NR g)) {i : Nat} (hi : i < 14) : ∀ (r t n : Nat) (x : Int32), t + r = 15 → r < n → M14 x → (∀ j, bt x j = true ↔ Lv g i t j) → (∀ s, s < t → ∃ j, Lv g i s j) →
    p_X5_height_L20 g n x (nI t + (-1)) ∧ ∃ h y, f_X5_height_L20 g n x (nI t + (-1)) = (y, nI h) ∧ Hg g i h := by
  intro r
  induction r with
  | zero =>
    intro t n x ht hn hx h1 h2
    obtain ⟨j, hj⟩ := h2 14 (by omega)
    exact absurd hj (Lv.none14 hg ha hi (by omega))
  | succ r ih =>
    intro t n x ht hn hx h1 h2
    obtain ⟨n, rfl⟩ : ∃ k, n = k + 1 := ⟨n - 1, by omega⟩
    by_cases c : x = 0
    · have hz := (Lv.z hx h1).mp c
      have ht0 : t ≠ 0 := fun e => by subst e; exact hz i rfl
      obtain ⟨t, rfl⟩ : ∃ k, t = k + 1 := ⟨t - 1, by omega⟩
      refine ⟨?_, t, x, ?_, fun s hs => h2 s (by omega), hz⟩
      · rw [p_X5_height_L20]; exact ⟨fun _ => trivial, fun h => absurd c h⟩
      · rw [f_X5_height_L20, if_pos c, pk_m1]
    · obtain ⟨s1, w, s2, s3⟩ := height_L30 g x 14 0 15 0 rfl (by decide)
      rw [nI_0] at s1 s2
      have hws : ∀ j, bt w j = true ↔ bt (f_X1_step g x) j = true := fun j => by
        rw [s3 j, (step_spec g x).2 j, b_0]
        simp
      have hwM : M14 w := fun j hj => by
        cases hb : bt w j
        · rfl
        · have := (hws j).mp hb
          rw [step_M hg x j hj] at this
          cases this
      have hw := Lv.next hi h1 hx
      obtain ⟨a1, h, y, a2, a3⟩ := ih (t + 1) n w (by omega) (by omega) hwM (fun j => (hws j).trans (hw j)) (fun s hs => by
        rcases Nat.lt_or_ge s t with q | q
        · exact h2 s q
        · rw [show s = t by omega]; exact Lv.nz hx h1 c)
      have e1 : nI t + (-1) + 1 = nI (t + 1) + (-1) := by rw [pk_m1, Int32.add_assoc, show (-1 : Int32) + 1 = 0 from by decide, Int32.add_zero]
      refine ⟨?_, h, y, ?_, a3⟩
      · rw [p_X5_height_L20]
        refine ⟨fun h => absurd h c, fun _ => ⟨s1, fun x1 x2 hxx => ?_⟩⟩
        rw [s2] at hxx
        cases hxx
        rw [e1]
        exact a1
      · rw [f_X5_height_L20, if_neg c, s2, e1]
        exact a2
theorem height_same {g mn : AA} (hg : RM g) (ha : Ac (NR g)) (hs : ∀ i, i < 14 → mn i = g i) {i : Nat} (hi : i < 14) : (p_X5_height_L20 mn 16 (1 <<< (nI i &&& 31)) (-1) ∧ ∃ y, f_X5_height_L20 mn 16 (1 <<< (nI i &&& 31)) (-1) = (y, f_X1_longestWayDown g (nI i))) := by
  obtain ⟨_, h, e1, _, e2⟩ := lwd_spec hg ha hi
  have hgm : RM mn := fun j hj => by rw [hs j hj]; exact hg j hj
  have hc : ∀ a b, a < 14 → b < 14 → (NR g a b ↔ NR mn a b) := fun a b h1 _ => by unfold NR; rw [hs a h1]
  have hLv : ∀ t j, Lv g i t j ↔ Lv mn i t j := fun t j => by
    match t with
    | 0 => exact Iff.rfl
    | t + 1 =>
      constructor
      · intro q
        exact Wy.cong hc hi (Lv.lt hg hi (t := t + 1) q) q
      · intro q
        exact Wy.cong (fun a b c d => (hc a b c d).symm) hi (Lv.lt hgm hi (t := t + 1) q) q
  obtain ⟨a1, h', y, a2, a3⟩ := height_L20 hgm (Ac.cong hc ha) hi 15 0 16 (f_X4_only (nI i)) rfl (by decide) (only_M hi) (fun j => only_bT hi) (fun s hs => by omega)
  have e3 : nI 0 + (-1) = -1 := by decide
  rw [e3] at a1 a2
  have e4 : Hg mn i h := ⟨fun s hs => by obtain ⟨j, hj⟩ := e2.1 s hs; exact ⟨j, (hLv s j).mp hj⟩, fun j q => e2.2 j ((hLv _ _).mpr q)⟩
  refine ⟨a1, y, ?_⟩
  rw [e1, e4.one a3]
  exact a2
