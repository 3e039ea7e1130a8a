def RM (g : AA) : Prop := ∀ i, i < 14 → M14 (g i)
def NR (g : AA) (i j : Nat) : Prop := bt (g i) j = true
theorem in_or {p q : Nat → Prop} {j : Nat} : (∃ i, j ≤ i ∧ i < 14 ∧ p i) ↔ (j < 14 ∧ p j) ∨ ∃ i, j + 1 ≤ i ∧ i < 14 ∧ p i := by
  constructor
  · rintro ⟨i, h1, h2, h3⟩
    rcases Nat.lt_or_ge j i with q | q
    · exact Or.inr ⟨i, q, h2, h3⟩
    · have e : i = j := by omega
      subst e
      exact Or.inl ⟨h2, h3⟩
  · rintro (⟨h1, h2⟩ | ⟨i, h1, h2, h3⟩)
    · exact ⟨j, Nat.le_refl _, h1, h2⟩
    · exact ⟨i, by omega, h2, h3⟩
theorem n14 {j : Nat} (h : j < 14) : ¬ (14 : Int32) ≤ nI j := fun c => by have := (le14 (j := j) (by omega)).mp c; omega
theorem y14 : (14 : Int32) ≤ nI 14 := (le14 (by decide)).mpr (Nat.le_refl _)
theorem step_L (kl : AA) (a : Int32) : ∀ (r j n : Nat) (v : Int32), j + r = 14 → r < n →
    p_X1_step_L4 kl a n v (nI j) ∧ ∃ w, f_X1_step_L4 kl a n v (nI j) = (w, nI 14) ∧ ∀ t, (bt w t = true ↔ bt v t = true ∨ ∃ i, j ≤ i ∧ i < 14 ∧ (bt a i = true ∧ bt (kl i) t = true)) := by
  intro r
  induction r with
  | zero =>
    intro j n v hj hn
    obtain ⟨n, rfl⟩ : ∃ k, n = k + 1 := ⟨n - 1, by omega⟩
    have e : j = 14 := by omega
    subst e
    refine ⟨?_, v, ?_, fun t => ⟨Or.inl, ?_⟩⟩
    · rw [p_X1_step_L4]; exact ⟨fun _ => trivial, fun h => absurd y14 h⟩
    · rw [f_X1_step_L4, if_pos y14]
    · rintro (h | ⟨i, h1, h2, _⟩)
      · exact h
      · omega
  | succ r ih =>
    intro j n v hj hn
    obtain ⟨n, rfl⟩ : ∃ k, n = k + 1 := ⟨n - 1, by omega⟩
    have hj14 : j < 14 := by omega
    cases hb : bt a j
    · have c2 := (has4_0 a (n := j) (by omega)).mpr hb
      obtain ⟨h1, w, h2, h3⟩ := ih (j + 1) n v (by omega) (by omega)
      refine ⟨?_, w, ?_, fun t => ?_⟩
      · rw [p_X1_step_L4]; exact ⟨fun h => absurd h (n14 hj14), fun _ => ⟨fun _ => by rw [nI_1]; exact h1, fun h => absurd c2 h⟩⟩
      · rw [f_X1_step_L4, if_neg (n14 hj14), if_pos c2, nI_1]; exact h2
      · rw [h3 t, in_or (p := fun i => bt a i = true ∧ bt (kl i) t = true) (q := fun _ => True) (j := j), hb]
        simp
    · have c2 : ¬ f_X4_has a (nI j) = 0 := fun h => by rw [(has4_0 a (n := j) (by omega)).mp h] at hb; cases hb
      obtain ⟨h1, w, h2, h3⟩ := ih (j + 1) n (v ||| kl j) (by omega) (by omega)
      refine ⟨?_, w, ?_, fun t => ?_⟩
      · rw [p_X1_step_L4]; exact ⟨fun h => absurd h (n14 hj14), fun _ => ⟨fun h => absurd h c2, fun _ => ⟨in14 hj14, by rw [nI_1, cl (by omega)]; exact h1⟩⟩⟩
      · rw [f_X1_step_L4, if_neg (n14 hj14), if_neg c2, nI_1, cl (by omega)]; exact h2
      · rw [h3 t, in_or (p := fun i => bt a i = true ∧ bt (kl i) t = true) (q := fun _ => True) (j := j), hb, b_or]
        simp [hj14, or_assoc]
theorem step_spec (kl : AA) (a : Int32) : p_X1_step kl a ∧ ∀ t, (bt (f_X1_step kl a) t = true ↔ ∃ i, i < 14 ∧ bt a i = true ∧ bt (kl i) t = true) := by
  obtain ⟨h1, w, h2, h3⟩ := step_L kl a 14 0 15 0 rfl (by decide)
  have e0 : nI 0 = 0 := nI_0
  rw [e0] at h1 h2
  refine ⟨⟨h1, fun _ _ _ => trivial⟩, fun t => ?_⟩
  unfold f_X1_step
  rw [h2]
  show bt w t = true ↔ _
  rw [h3 t, b_0]
  simp
theorem step_M {kl : AA} (hk : RM kl) (a : Int32) : M14 (f_X1_step kl a) := fun i hi => by
  cases hb : bt (f_X1_step kl a) i
  · rfl
  · obtain ⟨k, hk1, _, h3⟩ := ((step_spec kl a).2 i).mp hb
    rw [hk k hk1 i hi] at h3
    cases h3
/-- what is reached in just t steps -/
def Lv (kl : AA) (i t j : Nat) : Prop := match t with
  | 0 => j = i
  | t + 1 => Wy (NR kl) t i j
theorem Lv.next {kl : AA} {i t : Nat} (hi : i < 14) {x : Int32} (h : ∀ j, bt x j = true ↔ Lv kl i t j) (hx : M14 x) : ∀ j, bt (f_X1_step kl x) j = true ↔ Lv kl i (t + 1) j := fun j => by
  rw [(step_spec kl x).2 j]
  match t with
  | 0 =>
    constructor
    · rintro ⟨k, hk, h1, h2⟩
      have e : k = i := (h k).mp h1
      subst e
      exact h2
    · intro h1
      exact ⟨i, hi, (h i).mpr rfl, h1⟩
  | t + 1 =>
    constructor
    · rintro ⟨k, hk, h1, h2⟩
      exact Wy.snoc ((h k).mp h1) hk h2
    · intro h1
      obtain ⟨k, hk, h2, h3⟩ := Wy.unsnoc h1
      exact ⟨k, hk, (h k).mpr h2, h3⟩
theorem follow_L {kl : AA} (hk : RM kl) {i : Nat} (hi : i < 14) : ∀ (r t n : Nat) (found reached : Int32), t + r = 14 → r < n → M14 reached → M14 found → (∀ j, bt reached j = true ↔ Lv kl i t j) → (∀ j, bt found j = true ↔ ∃ m, m < t ∧ Wy (NR kl) m i j) →
    p_X1_follow_L10 kl n found reached (nI t) ∧ ∃ w x y, f_X1_follow_L10 kl n found reached (nI t) = (w, x, y) ∧ M14 w ∧ ∀ j, (bt w j = true ↔ ∃ m, m < 14 ∧ Wy (NR kl) m i j) := by
  intro r
  induction r with
  | zero =>
    intro t n found reached ht hn hr hf h1 h2
    obtain ⟨n, rfl⟩ : ∃ k, n = k + 1 := ⟨n - 1, by omega⟩
    have e : t = 14 := by omega
    subst e
    refine ⟨?_, found, reached, nI 14, ?_, hf, h2⟩
    · rw [p_X1_follow_L10]; exact ⟨fun _ => trivial, fun h => absurd y14 h⟩
    · rw [f_X1_follow_L10, if_pos y14]
  | succ r ih =>
    intro t n found reached ht hn hr hf h1 h2
    obtain ⟨n, rfl⟩ : ∃ k, n = k + 1 := ⟨n - 1, by omega⟩
    have ht14 : t < 14 := by omega
    by_cases c : reached = 0
    · refine ⟨?_, found, reached, nI t, ?_, hf, fun j => ?_⟩
      · rw [p_X1_follow_L10]; exact ⟨fun h => absurd h (n14 ht14), fun _ => ⟨fun _ => trivial, fun h => absurd c h⟩⟩
      · rw [f_X1_follow_L10, if_neg (n14 ht14), if_pos c]
      · rw [h2 j]
        constructor
        · rintro ⟨m, hm, h3⟩
          exact ⟨m, by omega, h3⟩
        · rintro ⟨m, hm, h3⟩
          rcases Nat.lt_or_ge m t with q | q
          · exact ⟨m, q, h3⟩
          · exfalso
            have hno : ∀ k, ¬ Lv kl i t k := fun k hk => by
              have := (h1 k).mpr hk
              rw [c, b_0] at this
              cases this
            match t, hno, q with
            | 0, hno, _ => exact hno i rfl
            | t + 1, hno, q =>
              rcases Nat.lt_or_ge t m with z | z
              · obtain ⟨k, _, h4⟩ := Wy.pre h3 t z
                exact hno k h4
              · exact absurd (Nat.le_trans q z) (by omega)
    · obtain ⟨h3, w, x, y, h4, h5, h6⟩ := ih (t + 1) n (found ||| f_X1_step kl reached) (f_X1_step kl reached) (by omega) (by omega) (step_M hk _) (hf.or (step_M hk _)) (Lv.next hi h1 hr) (fun j => by
        rw [b_or, Bool.or_eq_true, h2 j, Lv.next hi h1 hr j]
        constructor
        · rintro (⟨m, hm, h3⟩ | h3)
          · exact ⟨m, by omega, h3⟩
          · exact ⟨t, by omega, h3⟩
        · rintro ⟨m, hm, h3⟩
          rcases Nat.lt_or_ge m t with q | q
          · exact Or.inl ⟨m, q, h3⟩
          · have e : m = t := by omega
            subst e
            exact Or.inr h3)
      refine ⟨?_, w, x, y, ?_, h5, h6⟩
      · rw [p_X1_follow_L10]; exact ⟨fun h => absurd h (n14 ht14), fun _ => ⟨fun h => absurd h c, fun _ => ⟨(step_spec kl reached).1, by rw [nI_1]; exact h3⟩⟩⟩
      · rw [f_X1_follow_L10, if_neg (n14 ht14), if_neg c, nI_1]; exact h4
theorem follow_spec {kl : AA} (hk : RM kl) (ha : Ac (NR kl)) {i : Nat} (hi : i < 14) : p_X1_follow kl (nI i) ∧ M14 (f_X1_follow kl (nI i)) ∧ ∀ j, j < 14 → (bt (f_X1_follow kl (nI i)) j = true ↔ Rc (NR kl) i j) := by
  obtain ⟨h1, w, x, y, h2, h3, h4⟩ := follow_L hk hi 14 0 15 0 (f_X4_only (nI i)) rfl (by decide) (only_M hi) M14.zero (fun j => by rw [only_b hi]; exact decide_eq_true_iff) (fun j => by rw [b_0]; simp)
  rw [nI_0] at h1 h2
  refine ⟨⟨h1, fun _ _ _ _ => trivial⟩, ?_, fun j hj => ?_⟩
  · unfold f_X1_follow
    rw [h2]
    exact h3
  · unfold f_X1_follow
    rw [h2]
    show bt w j = true ↔ _
    rw [h4 j, Rc.bound ha hi hj]
    exact ⟨fun ⟨m, _, h⟩ => ⟨m, h.short ha hi hj, h⟩, fun ⟨m, hm, h⟩ => ⟨m, by omega, h⟩⟩
theorem upd_at {f : AA} {k j : Nat} {x : Int32} : upd f k x j = if j = k then x else f j := rfl
theorem followAll_L {gn gu : AA} (hn : RM gn) (hu : RM gu) (an : Ac (NR gn)) (au : Ac (NR gu)) : ∀ (r j n : Nat) (b a : AA), j + r = 14 → r < n →
    p_X1_followAll_L2 gn gu n (nI j) b a ∧ ∃ b' a', f_X1_followAll_L2 gn gu n (nI j) b a = (nI 14, b', a') ∧ (∀ i, i < j → b' i = b i ∧ a' i = a i) ∧ ∀ i, j ≤ i → i < 14 → b' i = f_X1_follow gn (nI i) ∧ a' i = f_X1_follow gu (nI i) := by
  intro r
  induction r with
  | zero =>
    intro j n b a hj hn'
    obtain ⟨n, rfl⟩ : ∃ k, n = k + 1 := ⟨n - 1, by omega⟩
    have e : j = 14 := by omega
    subst e
    refine ⟨?_, b, a, ?_, fun _ _ => ⟨rfl, rfl⟩, fun i h1 h2 => by omega⟩
    · rw [p_X1_followAll_L2]; exact ⟨fun _ => trivial, fun h => absurd y14 h⟩
    · rw [f_X1_followAll_L2, if_pos y14]
  | succ r ih =>
    intro j n b a hj hn'
    obtain ⟨n, rfl⟩ : ∃ k, n = k + 1 := ⟨n - 1, by omega⟩
    have hj14 : j < 14 := by omega
    obtain ⟨h1, b', a', h2, h3, h4⟩ := ih (j + 1) n (upd b j (f_X1_follow gn (nI j))) (upd a j (f_X1_follow gu (nI j))) (by omega) (by omega)
    refine ⟨?_, b', a', ?_, fun i hi => ?_, fun i hi hi2 => ?_⟩
    · rw [p_X1_followAll_L2]; exact ⟨fun h => absurd h (n14 hj14), fun _ => ⟨(follow_spec hn an hj14).1, in14 hj14, (follow_spec hu au hj14).1, in14 hj14, by rw [nI_1, cl (by omega)]; exact h1⟩⟩
    · rw [f_X1_followAll_L2, if_neg (n14 hj14), nI_1, cl (by omega)]; exact h2
    · have h5 := h3 i (by omega)
      rw [upd_at, upd_at, if_neg (by omega), if_neg (by omega)] at h5
      exact h5
    · rcases Nat.lt_or_ge j i with q | q
      · exact h4 i q hi2
      · have e : i = j := by omega
        subst e
        have h5 := h3 i (by omega)
        rw [upd_at, upd_at, if_pos rfl, if_pos rfl] at h5
        exact h5
theorem followAll_spec {gn gu gb ga : AA} (hn : RM gn) (hu : RM gu) (an : Ac (NR gn)) (au : Ac (NR gu)) : p_X1_followAll gn gu gb ga ∧ ∃ b a, f_X1_followAll gn gu gb ga = (b, a) ∧ ∀ i, i < 14 → b i = f_X1_follow gn (nI i) ∧ a i = f_X1_follow gu (nI i) := by
  obtain ⟨h1, b, a, h2, _, h4⟩ := followAll_L hn hu an au 14 0 15 gb ga rfl (by decide)
  rw [nI_0] at h1 h2
  refine ⟨⟨h1, fun _ _ _ _ => trivial⟩, b, a, ?_, fun i hi => h4 i (Nat.zero_le _) hi⟩
  unfold f_X1_followAll
  rw [h2]
/-- what the graph's four arrays are to one another -/
def GI (gn gu gb ga : AA) : Prop := RM gn ∧ RM gu ∧ Ac (NR gn) ∧ (∀ i j, i < 14 → j < 14 → (NR gu j i ↔ NR gn i j)) ∧ (∀ i, i < 14 → M14 (gb i) ∧ M14 (ga i)) ∧ ∀ i j, i < 14 → j < 14 → (NR gb i j ↔ Rc (NR gn) i j) ∧ (NR ga j i ↔ Rc (NR gn) i j)
theorem NR.lt {g : AA} (h : RM g) {i j : Nat} (hi : i < 14) (hn : NR g i j) : j < 14 := (h i hi).lt hn
/-- ways stay among the nodes -/
theorem Wy.cong {N N' : Nat → Nat → Prop} (h : ∀ i j, i < 14 → j < 14 → (N i j ↔ N' i j)) : ∀ {n i j : Nat}, i < 14 → j < 14 → Wy N n i j → Wy N' n i j
  | 0, i, j, hi, hj, hw => (h i j hi hj).mp hw
  | n + 1, i, j, hi, hj, ⟨k, hk, h1, h2⟩ => ⟨k, hk, (h i k hi hk).mp h1, Wy.cong h hk hj h2⟩
theorem Rc.cong {N N' : Nat → Nat → Prop} (h : ∀ i j, i < 14 → j < 14 → (N i j ↔ N' i j)) {i j : Nat} (hi : i < 14) (hj : j < 14) : Rc N i j ↔ Rc N' i j :=
  ⟨fun ⟨n, hw⟩ => ⟨n, hw.cong h hi hj⟩, fun ⟨n, hw⟩ => ⟨n, hw.cong (fun i j a b => (h i j a b).symm) hi hj⟩⟩
theorem Ac.cong {N N' : Nat → Nat → Prop} (h : ∀ i j, i < 14 → j < 14 → (N i j ↔ N' i j)) (ha : Ac N) : Ac N' := fun i hi hr => ha i hi ((Rc.cong h hi hi).mpr hr)
theorem rev_of {gn gu : AA} (ht : ∀ i j, i < 14 → j < 14 → (NR gu j i ↔ NR gn i j)) : ∀ i j, i < 14 → j < 14 → (NR gu i j ↔ (fun x y => NR gn y x) i j) := fun i j hi hj => ht j i hj hi
theorem Rc.tr {gn gu : AA} (ht : ∀ i j, i < 14 → j < 14 → (NR gu j i ↔ NR gn i j)) {i j : Nat} (hi : i < 14) (hj : j < 14) : Rc (NR gu) j i ↔ Rc (NR gn) i j := (Rc.cong (rev_of ht) hj hi).trans Rc.rev
theorem Ac.tr {gn gu : AA} (ht : ∀ i j, i < 14 → j < 14 → (NR gu j i ↔ NR gn i j)) (h : Ac (NR gn)) : Ac (NR gu) := fun i hi hr => h i hi ((Rc.tr ht hi hi).mp hr)
/-- all is followed anew -/
theorem GI.made {gn gu gb ga : AA} (hn : RM gn) (hu : RM gu) (han : Ac (NR gn)) (ht : ∀ i j, i < 14 → j < 14 → (NR gu j i ↔ NR gn i j)) : p_X1_followAll gn gu gb ga ∧ ∃ b a, f_X1_followAll gn gu gb ga = (b, a) ∧ GI gn gu b a := by
  obtain ⟨h1, b, a, h2, h3⟩ := followAll_spec (gb := gb) (ga := ga) hn hu han (Ac.tr ht han)
  refine ⟨h1, b, a, h2, hn, hu, han, ht, fun i hi => ?_, fun i j hi hj => ?_⟩
  · rw [(h3 i hi).1, (h3 i hi).2]
    exact ⟨(follow_spec hn han hi).2.1, (follow_spec hu (Ac.tr ht han) hi).2.1⟩
  · unfold NR
    rw [(h3 i hi).1, (h3 j hj).2]
    exact ⟨(follow_spec hn han hi).2.2 j hj, ((follow_spec hu (Ac.tr ht han) hj).2.2 i hi).trans (Rc.tr ht hi hj)⟩
