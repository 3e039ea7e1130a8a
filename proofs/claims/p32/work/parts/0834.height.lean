/-! ===== heights ===== -/
def Hg (g : AA) (i h : Nat) : Prop := (∀ s, s ≤ h → ∃ j, Lv g i s j) ∧ ∀ j, ¬ Lv g i (h + 1) j
theorem Hg.one {g : AA} {i h h' : Nat} (a : Hg g i h) (b : Hg g i h') : h = h' := by
  rcases Nat.lt_trichotomy h h' with q | q | q
  · obtain ⟨j, hj⟩ := b.1 (h + 1) q
    exact absurd hj (a.2 j)
  · exact q
  · obtain ⟨j, hj⟩ := a.1 (h' + 1) q
    exact absurd hj (b.2 j)
theorem Lv.lt {g : AA} (hg : RM g) {i : Nat} (hi : i < 14) : ∀ {t j : Nat}, Lv g i t j → j < 14
  | 0, j, h => by rw [show j = i from h]; exact hi
  | t + 1, j, h => by
    match t, h with
    | 0, h => exact NR.lt hg hi h
    | t + 1, h =>
      obtain ⟨k, hk, _, h2⟩ := Wy.unsnoc (show Wy (NR g) (t + 1) i j from h)
      exact NR.lt hg hk h2
theorem Lv.none14 {g : AA} (hg : RM g) (ha : Ac (NR g)) {i : Nat} (hi : i < 14) {t j : Nat} (ht : 14 ≤ t) : ¬ Lv g i t j := fun h => by
  have hj := Lv.lt hg hi h
  obtain ⟨t, rfl⟩ : ∃ k, t = k + 1 := ⟨t - 1, by omega⟩
  have := Wy.short ha (show Wy (NR g) t i j from h) hi hj
  omega
theorem Lv.z {g : AA} {i t : Nat} {x : Int32} (hx : M14 x) (h : ∀ j, bt x j = true ↔ Lv g i t j) : x = 0 ↔ ∀ j, ¬ Lv g i t j := by
  constructor
  · intro e j hj
    have := (h j).mpr hj
    rw [e, b_0] at this
    cases this
  · intro hn
    refine (z_iff hx).mpr fun j _ => ?_
    cases hb : bt x j
    · rfl
    · exact absurd ((h j).mp hb) (hn j)
theorem Lv.nz {g : AA} {i t : Nat} {x : Int32} (hx : M14 x) (h : ∀ j, bt x j = true ↔ Lv g i t j) (hne : ¬ x = 0) : ∃ j, Lv g i t j := by
  obtain ⟨j, _, hj⟩ := (nz_iff hx).mp hne
  exact ⟨j, (h j).mp hj⟩
theorem lwd_L {g : AA} (hg : RM g) (ha : Ac (NR g)) {i : Nat} (hi : i < 14) : ∀ (r t n : Nat) (x : Int32), t + r = 14 → r < n → M14 x → (∀ j, bt x j = true ↔ Lv g i (t + 1) j) → (∀ s, s ≤ t → ∃ j, Lv g i s j) →
    p_X1_longestWayDown_L14 g n (nI t) x ∧ ∃ h y, f_X1_longestWayDown_L14 g n (nI t) x = (nI h, y) ∧ h < 14 ∧ Hg g i h := by
  intro r
  induction r with
  | zero =>
    intro t n x ht hn hx h1 h2
    obtain ⟨j, hj⟩ := h2 t (Nat.le_refl _)
    exact absurd hj (Lv.none14 hg ha hi (by omega))
  | succ r ih =>
    intro t n x ht hn hx h1 h2
    obtain ⟨n, rfl⟩ : ∃ k, n = k + 1 := ⟨n - 1, by omega⟩
    have ht14 : t < 14 := by omega
    by_cases c : x = 0
    · refine ⟨?_, t, x, ?_, ht14, h2, (Lv.z hx h1).mp c⟩
      · rw [p_X1_longestWayDown_L14]; exact ⟨fun _ => trivial, fun h => absurd c h⟩
      · rw [f_X1_longestWayDown_L14, if_pos c]
    · obtain ⟨a1, h, y, a2, a3, a4⟩ := ih (t + 1) n (f_X1_step g x) (by omega) (by omega) (step_M hg _) (Lv.next hi h1 hx) (fun s hs => by
        rcases Nat.lt_or_ge t s with q | q
        · rw [show s = t + 1 by omega]; exact Lv.nz hx h1 c
        · exact h2 s q)
      refine ⟨?_, h, y, ?_, a3, a4⟩
      · rw [p_X1_longestWayDown_L14]
        exact ⟨fun h => absurd h c, fun _ => ⟨fun h => absurd h (n14 ht14), fun _ => ⟨(step_spec g x).1, by rw [nI_1]; exact a1⟩⟩⟩
      · rw [f_X1_longestWayDown_L14, if_neg c, if_neg (n14 ht14), nI_1]; exact a2
theorem lwd_spec {g : AA} (hg : RM g) (ha : Ac (NR g)) {i : Nat} (hi : i < 14) : p_X1_longestWayDown g (nI i) ∧ ∃ h, f_X1_longestWayDown g (nI i) = nI h ∧ h < 14 ∧ Hg g i h := by
  have h0 : ∀ j, bt (f_X4_only (nI i)) j = true ↔ Lv g i 0 j := fun j => only_bT hi
  obtain ⟨a1, h, y, a2, a3, a4⟩ := lwd_L hg ha hi 14 0 15 _ rfl (by decide) (step_M hg _) (Lv.next hi h0 (only_M hi)) (fun s hs => ⟨i, by rw [show s = 0 by omega]; rfl⟩)
  rw [nI_0] at a1 a2
  refine ⟨⟨(step_spec _ _).1, a1, fun _ _ _ => trivial⟩, h, ?_, a3, a4⟩
  unfold f_X1_longestWayDown
  rw [a2]
