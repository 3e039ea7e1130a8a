theorem only_bT {n i : Nat} (hn : n < 14) : bt (f_X4_only (nI n)) i = true ↔ i = n := by rw [only_b hn]; exact decide_eq_true_iff
theorem NR.put {g : AA} {i j x y : Nat} (hj : j < 14) : NR (upd g i (g i ||| f_X4_only (nI j))) x y ↔ NR g x y ∨ (x = i ∧ y = j) := by
  unfold NR
  rw [upd_at]
  by_cases e : x = i
  · subst e
    rw [if_pos rfl, b_or, Bool.or_eq_true, only_bT hj]
    simp
  · rw [if_neg e]
    simp [e]
theorem NR.cut {g : AA} (hg : RM g) {i j x y : Nat} (hx : x < 14) (hj : j < 14) : NR (upd g i (g i &&& (f_X4_only (nI j) ^^^ (-1)))) x y ↔ NR g x y ∧ ¬ (x = i ∧ y = j) := by
  unfold NR
  rw [upd_at]
  by_cases e : x = i
  · subst e
    rw [if_pos rfl, b_and, Bool.and_eq_true]
    constructor
    · rintro ⟨h1, h2⟩
      have hy := (hg x hx).lt h1
      rw [not_b _ (by omega), Bool.not_eq_true'] at h2
      refine ⟨h1, fun ⟨_, h⟩ => ?_⟩
      subst h
      rw [(only_bT hj).mpr rfl] at h2
      cases h2
    · rintro ⟨h1, h2⟩
      have hy := (hg x hx).lt h1
      refine ⟨h1, ?_⟩
      rw [not_b _ (by omega), Bool.not_eq_true']
      cases hb : bt (f_X4_only (nI j)) y
      · rfl
      · exact absurd ⟨rfl, (only_bT hj).mp hb⟩ h2
  · rw [if_neg e]
    simp [e]
theorem RM.put {g : AA} (h : RM g) {i j : Nat} (hj : j < 14) : RM (upd g i (g i ||| f_X4_only (nI j))) := fun x hx => by
  rw [upd_at]
  by_cases e : x = i
  · subst e; rw [if_pos rfl]; exact (h x hx).or (only_M hj)
  · rw [if_neg e]; exact h x hx
theorem RM.cut {g : AA} (h : RM g) {i : Nat} (y : Int32) : RM (upd g i (g i &&& y)) := fun x hx => by
  rw [upd_at]
  by_cases e : x = i
  · subst e; rw [if_pos rfl]; exact (h x hx).and y
  · rw [if_neg e]; exact h x hx
theorem link_spec {gn gu gb ga : AA} (h : GI gn gu gb ga) {i j : Nat} (hi : i < 14) (hj : j < 14) (hij : i ≠ j) (hr : ¬ Rc (NR gn) j i) :
    p_X1_link gn gu gb ga (nI i) (nI j) ∧ ∃ gn' gu' gb' ga', f_X1_link gn gu gb ga (nI i) (nI j) = (if bt (gn i) j then 0 else 1, gn', gu', gb', ga') ∧ GI gn' gu' gb' ga' ∧ ∀ k, k < 14 → gn' k = upd gn i (gn i ||| f_X4_only (nI j)) k := by
  obtain ⟨hn, hu, han, ht, -, -⟩ := id h
  have m := GI.made (gb := gb) (ga := ga) (RM.put hn (i := i) hj) (RM.put hu (i := j) hi) (Ac.cong (fun x y _ _ => (NR.put hj).symm) (Ac.link han hi hj hij hr)) (fun x y hx hy => by rw [NR.put hi, NR.put hj, ht x y hx hy]; exact or_congr Iff.rfl ⟨fun ⟨a, b⟩ => ⟨b, a⟩, fun ⟨a, b⟩ => ⟨b, a⟩⟩)
  obtain ⟨hp, b, a, hf, hG⟩ := m
  constructor
  · unfold p_X1_link
    rw [cl (j := i) (by omega), cl (j := j) (by omega)]
    exact ⟨in14 hi, fun _ => ⟨in14 hi, in14 hi, in14 hj, in14 hj, hp, fun _ _ _ => trivial⟩, fun _ => trivial⟩
  · unfold f_X1_link
    rw [cl (j := i) (by omega), cl (j := j) (by omega)]
    cases hb : bt (gn i) j
    · rw [if_pos ((has4_0 _ (by omega)).mpr hb), hf]
      exact ⟨_, _, _, _, rfl, hG, fun _ _ => rfl⟩
    · rw [if_neg (fun c => by rw [(has4_0 _ (by omega)).mp c] at hb; cases hb)]
      refine ⟨_, _, _, _, rfl, h, fun k hk => ?_⟩
      rw [upd_at]
      by_cases e : k = i
      · subst e
        rw [if_pos rfl]
        refine M14.extT (hn k hk) ((hn k hk).or (only_M hj)) fun t ht => ?_
        rw [b_or, Bool.or_eq_true, only_bT hj]
        exact ⟨Or.inl, fun q => q.elim id (fun q => by rw [q]; exact hb)⟩
      · rw [if_neg e]
theorem unlink_spec {gn gu gb ga : AA} (h : GI gn gu gb ga) {i j : Nat} (hi : i < 14) (hj : j < 14) :
    p_X1_unlink gn gu gb ga (nI i) (nI j) ∧ ∃ gn' gu' gb' ga', f_X1_unlink gn gu gb ga (nI i) (nI j) = (if bt (gn i) j then 1 else 0, gn', gu', gb', ga') ∧ GI gn' gu' gb' ga' ∧ ∀ k, k < 14 → gn' k = upd gn i (gn i &&& (f_X4_only (nI j) ^^^ (-1))) k := by
  obtain ⟨hn, hu, han, ht, -, -⟩ := id h
  have m := GI.made (gb := gb) (ga := ga) (RM.cut hn (i := i) (f_X4_only (nI j) ^^^ (-1))) (RM.cut hu (i := j) (f_X4_only (nI i) ^^^ (-1))) (Ac.cong (N := fun x y => NR gn x y ∧ ¬ (x = i ∧ y = j)) (fun x y hx _ => (NR.cut hn hx hj).symm) (han.mono (fun _ _ q => q.1))) (fun x y hx hy => by
    rw [NR.cut hu hy hi, NR.cut hn hx hj, ht x y hx hy]; exact and_congr Iff.rfl (not_congr ⟨fun ⟨a, b⟩ => ⟨b, a⟩, fun ⟨a, b⟩ => ⟨b, a⟩⟩))
  obtain ⟨hp, b, a, hf, hG⟩ := m
  constructor
  · unfold p_X1_unlink
    rw [cl (j := i) (by omega), cl (j := j) (by omega)]
    exact ⟨in14 hi, fun _ => trivial, fun _ => ⟨in14 hi, in14 hi, in14 hj, in14 hj, hp, fun _ _ _ => trivial⟩⟩
  · unfold f_X1_unlink
    rw [cl (j := i) (by omega), cl (j := j) (by omega)]
    cases hb : bt (gn i) j
    · rw [if_pos ((has4_0 _ (by omega)).mpr hb)]
      refine ⟨_, _, _, _, rfl, h, fun k hk => ?_⟩
      rw [upd_at]
      by_cases e : k = i
      · subst e
        rw [if_pos rfl]
        refine M14.extT (hn k hk) ((hn k hk).and _) fun t ht => ?_
        rw [b_and, Bool.and_eq_true, not_b _ (by omega)]
        refine ⟨fun q => ⟨q, ?_⟩, fun q => q.1⟩
        rw [Bool.not_eq_true']
        cases hc : bt (f_X4_only (nI j)) t
        · rfl
        · rw [(only_bT hj).mp hc, hb] at q; cases q
      · rw [if_neg e]
    · rw [if_neg (fun c => by rw [(has4_0 _ (by omega)).mp c] at hb; cases hb), hf]
      exact ⟨_, _, _, _, rfl, hG, fun _ _ => rfl⟩
/-! ===== the reference's closing ===== -/
def BM (mu : AA) : Prop := ∀ i, i < 14 → M14 (mu i)
def Sd (T : Nat → Nat → Prop) (mu : AA) : Prop := ∀ i, i < 14 → ∀ t, bt (mu i) t = true → T i t
theorem closes_L44 {T : Nat → Nat → Prop} (hT : ∀ a b c, a < 14 → b < 14 → T a b → T b c → T a c) {k : Nat} (hk : k < 14) : ∀ (r j n : Nat) (mu : AA), j + r = 14 → r < n → BM mu → Sd T mu →
    p_X5_closes_L44 (nI k) n (nI j) mu ∧ ∃ mu', f_X5_closes_L44 (nI k) n (nI j) mu = (nI 14, mu') ∧ BM mu' ∧ Sd T mu' ∧ (∀ i, i < 14 → ∀ t, bt (mu i) t = true → bt (mu' i) t = true) ∧ (∀ i, i ≠ k → mu' i = mu i) ∧ ∀ o, j ≤ o → o < 14 → bt (mu k) o = true → ∀ t, bt (mu o) t = true → bt (mu' k) t = true := by
  intro r
  induction r with
  | zero =>
    intro j n mu hj hn hB hS
    obtain ⟨n, rfl⟩ : ∃ k, n = k + 1 := ⟨n - 1, by omega⟩
    have e : j = 14 := by omega
    subst e
    refine ⟨?_, mu, ?_, hB, hS, fun _ _ _ h => h, fun _ _ => rfl, fun o h1 h2 => by omega⟩
    · rw [p_X5_closes_L44]; exact ⟨fun _ => trivial, fun h => absurd y14 h⟩
    · rw [f_X5_closes_L44, if_pos y14]
  | succ r ih =>
    intro j n mu hj hn hB hS
    obtain ⟨n, rfl⟩ : ∃ k, n = k + 1 := ⟨n - 1, by omega⟩
    have hj14 : j < 14 := by omega
    have hh := has5_0 (mu k) (n := j) (by omega)
    obtain ⟨y, hy⟩ : ∃ y, y = (if f_X5_has (mu k) (nI j) = 0 then (0 : Int32) else mu j) := ⟨_, rfl⟩
    have hyb : ∀ t, bt y t = true ↔ bt (mu k) j = true ∧ bt (mu j) t = true := fun t => by
      rw [hy]
      cases hb : bt (mu k) j
      · rw [if_pos (hh.mpr hb), b_0]; simp
      · rw [if_neg (fun c => by rw [hh.mp c] at hb; cases hb)]; simp
    have hyM : M14 y := fun i hi => by
      cases hc : bt y i
      · rfl
      · have h1 := ((hyb i).mp hc).2
        rw [hB j hj14 i hi] at h1; cases h1
    have hu : ∀ i t, bt (upd mu k (mu k ||| y) i) t = true ↔ bt (mu i) t = true ∨ (i = k ∧ bt y t = true) := fun i t => by
      rw [upd_at]
      by_cases e : i = k
      · subst e; rw [if_pos rfl, b_or, Bool.or_eq_true]; simp
      · rw [if_neg e]; simp [e]
    obtain ⟨h1, mu', h2, h3, h4, h5, h6, h7⟩ := ih (j + 1) n (upd mu k (mu k ||| y)) (by omega) (by omega)
      (fun i hi => by
        rw [upd_at]
        by_cases e : i = k
        · rw [if_pos e]; exact (hB k hk).or hyM
        · rw [if_neg e]; exact hB i hi)
      (fun i hi t ht => by
        rcases (hu i t).mp ht with q | ⟨rfl, q⟩
        · exact hS i hi t q
        · have := (hyb t).mp q
          exact hT i j t hi hj14 (hS i hi j this.1) (hS j hj14 t this.2))
    refine ⟨?_, mu', ?_, h3, h4, fun i hi t ht => h5 i hi t ((hu i t).mpr (Or.inl ht)), fun i hi => ?_, fun o ho1 ho2 ho3 t ht => ?_⟩
    · rw [p_X5_closes_L44]
      refine ⟨fun h => absurd h (n14 hj14), fun _ => ?_⟩
      rw [cl (j := k) (by omega), cl (j := j) (by omega), ← hy, nI_1]
      have hin := in14 hk
      have hij := in14 hj14
      simp only [hin, hij, true_and, and_true, implies_true]
      intro z hz
      rw [← hz]
      exact h1
    · rw [f_X5_closes_L44, if_neg (n14 hj14), cl (j := k) (by omega), cl (j := j) (by omega), ← hy, nI_1]
      exact h2
    · rw [h6 i hi, upd_at, if_neg hi]
    · rcases Nat.lt_or_ge j o with q | q
      · refine h7 o q ho2 ((hu k o).mpr (Or.inl ho3)) t ((hu o t).mpr (Or.inl ht))
      · have e : o = j := by omega
        subst e
        exact h5 k hk t ((hu k t).mpr (Or.inr ⟨rfl, (hyb t).mpr ⟨ho3, ht⟩⟩))
theorem closes_L36 {T : Nat → Nat → Prop} (hT : ∀ a b c, a < 14 → b < 14 → T a b → T b c → T a c) : ∀ (r j n : Nat) (mu : AA), j + r = 14 → r < n → BM mu → Sd T mu →
    p_X5_closes_L36 n (nI j) mu ∧ ∃ mu', f_X5_closes_L36 n (nI j) mu = (nI 14, mu') ∧ BM mu' ∧ Sd T mu' ∧ (∀ i, i < 14 → ∀ t, bt (mu i) t = true → bt (mu' i) t = true) ∧ ∀ k, j ≤ k → k < 14 → ∀ o, o < 14 → bt (mu k) o = true → ∀ t, bt (mu o) t = true → bt (mu' k) t = true := by
  intro r
  induction r with
  | zero =>
    intro j n mu hj hn hB hS
    obtain ⟨n, rfl⟩ : ∃ k, n = k + 1 := ⟨n - 1, by omega⟩
    have e : j = 14 := by omega
    subst e
    refine ⟨?_, mu, ?_, hB, hS, fun _ _ _ h => h, fun o h1 h2 => by omega⟩
    · rw [p_X5_closes_L36]; exact ⟨fun _ => trivial, fun h => absurd y14 h⟩
    · rw [f_X5_closes_L36, if_pos y14]
  | succ r ih =>
    intro j n mu hj hn hB hS
    obtain ⟨n, rfl⟩ : ∃ k, n = k + 1 := ⟨n - 1, by omega⟩
    have hj14 : j < 14 := by omega
    obtain ⟨a1, mu1, a2, a3, a4, a5, a6, a7⟩ := closes_L44 hT hj14 14 0 15 mu rfl (by decide) hB hS
    rw [nI_0] at a1 a2
    obtain ⟨b1, mu', b2, b3, b4, b5, b6⟩ := ih (j + 1) n mu1 (by omega) (by omega) a3 a4
    refine ⟨?_, mu', ?_, b3, b4, fun i hi t ht => b5 i hi t (a5 i hi t ht), fun k hk1 hk2 o ho h8 t ht => ?_⟩
    · rw [p_X5_closes_L36]
      refine ⟨fun h => absurd h (n14 hj14), fun _ => ⟨a1, fun x y hxy => ?_⟩⟩
      rw [a2] at hxy
      cases hxy
      rw [nI_1]
      exact b1
    · rw [f_X5_closes_L36, if_neg (n14 hj14), a2, nI_1]
      exact b2
    · rcases Nat.lt_or_ge j k with q | q
      · exact b6 k q hk2 o ho (a5 k hk2 o h8) t (a5 o ho t ht)
      · have e : k = j := by omega
        subst e
        exact b5 k hk2 t (a7 o (Nat.zero_le _) ho h8 t ht)
theorem closes_L28 {N : Nat → Nat → Prop} : ∀ (r j n : Nat) (mu : AA), j + r = 14 → r < n → BM mu → Sd (Rc N) mu → (∀ k, k < 14 → ∀ t, t < 14 → ∀ m, m ≤ j → Wy N m k t → bt (mu k) t = true) →
    p_X5_closes_L28 n (nI j) mu ∧ ∃ mu', f_X5_closes_L28 n (nI j) mu = (nI 14, mu') ∧ BM mu' ∧ Sd (Rc N) mu' ∧ ∀ k, k < 14 → ∀ t, t < 14 → ∀ m, m ≤ 14 → Wy N m k t → bt (mu' k) t = true := by
  intro r
  induction r with
  | zero =>
    intro j n mu hj hn hB hS hC
    obtain ⟨n, rfl⟩ : ∃ k, n = k + 1 := ⟨n - 1, by omega⟩
    have e : j = 14 := by omega
    subst e
    refine ⟨?_, mu, ?_, hB, hS, hC⟩
    · rw [p_X5_closes_L28]; exact ⟨fun _ => trivial, fun h => absurd y14 h⟩
    · rw [f_X5_closes_L28, if_pos y14]
  | succ r ih =>
    intro j n mu hj hn hB hS hC
    obtain ⟨n, rfl⟩ : ∃ k, n = k + 1 := ⟨n - 1, by omega⟩
    have hj14 : j < 14 := by omega
    obtain ⟨a1, mu1, a2, a3, a4, a5, a6⟩ := closes_L36 (T := Rc N) (fun a b c _ hb h1 h2 => Rc.trans h1 hb h2) 14 0 15 mu rfl (by decide) hB hS
    rw [nI_0] at a1 a2
    obtain ⟨b1, mu', b2, b3, b4, b5⟩ := ih (j + 1) n mu1 (by omega) (by omega) a3 a4 (fun k hk t ht m hm hw => by
      match m, hm, hw with
      | 0, _, hw => exact a5 k hk t (hC k hk t ht 0 (Nat.zero_le _) hw)
      | m + 1, hm, ⟨o, ho, h1, h2⟩ => exact a6 k (Nat.zero_le _) hk o ho (hC k hk o ho 0 (Nat.zero_le _) h1) t (hC o ho t ht m (by omega) h2))
    refine ⟨?_, mu', ?_, b3, b4, b5⟩
    · rw [p_X5_closes_L28]
      refine ⟨fun h => absurd h (n14 hj14), fun _ => ⟨a1, fun x y hxy => ?_⟩⟩
      rw [a2] at hxy
      cases hxy
      rw [nI_1]
      exact b1
    · rw [f_X5_closes_L28, if_neg (n14 hj14), a2, nI_1]
      exact b2
theorem closes_L2 (mn : AA) : ∀ (r j n : Nat) (mu : AA), j + r = 14 → r < n → p_X5_closes_L2 mn n (nI j) mu ∧ ∃ mu', f_X5_closes_L2 mn n (nI j) mu = (nI 14, mu') ∧ (∀ i, i < j → mu' i = mu i) ∧ ∀ i, j ≤ i → i < 14 → mu' i = mn i := by
  intro r
  induction r with
  | zero =>
    intro j n mu hj hn
    obtain ⟨n, rfl⟩ : ∃ k, n = k + 1 := ⟨n - 1, by omega⟩
    have e : j = 14 := by omega
    subst e
    refine ⟨?_, mu, ?_, fun _ _ => rfl, fun o h1 h2 => by omega⟩
    · rw [p_X5_closes_L2]; exact ⟨fun _ => trivial, fun h => absurd y14 h⟩
    · rw [f_X5_closes_L2, if_pos y14]
  | succ r ih =>
    intro j n mu hj hn
    obtain ⟨n, rfl⟩ : ∃ k, n = k + 1 := ⟨n - 1, by omega⟩
    have hj14 : j < 14 := by omega
    obtain ⟨b1, mu', b2, b3, b4⟩ := ih (j + 1) n (upd mu j (mn j)) (by omega) (by omega)
    refine ⟨?_, mu', ?_, fun i hi => ?_, fun i h1 h2 => ?_⟩
    · rw [p_X5_closes_L2]
      refine ⟨fun h => absurd h (n14 hj14), fun _ => ?_⟩
      rw [cl (j := j) (by omega), nI_1]
      exact ⟨in14 hj14, in14 hj14, b1⟩
    · rw [f_X5_closes_L2, if_neg (n14 hj14), cl (j := j) (by omega), nI_1]
      exact b2
    · rw [b3 i (by omega), upd_at, if_neg (by omega)]
    · rcases Nat.lt_or_ge j i with q | q
      · exact b4 i q h2
      · have e : i = j := by omega
        subst e
        rw [b3 i (by omega), upd_at, if_pos rfl]
theorem closes_spec {mn mu : AA} (hn : RM mn) (ha : Ac (NR mn)) : p_X5_closes mn mu ∧ ∀ i, i < 14 → M14 (f_X5_closes mn mu i) ∧ ∀ j, j < 14 → (bt (f_X5_closes mn mu i) j = true ↔ Rc (NR mn) i j) := by
  obtain ⟨a1, m1, a2, -, a3⟩ := closes_L2 mn 14 0 15 mu rfl (by decide)
  rw [nI_0] at a1 a2
  have hm : ∀ i, i < 14 → m1 i = mn i := fun i hi => a3 i (Nat.zero_le _) hi
  obtain ⟨b1, m2, b2, b3, b4, b5⟩ := closes_L28 (N := NR mn) 14 0 15 m1 rfl (by decide) (fun i hi => by rw [hm i hi]; exact hn i hi) (fun i hi t ht => by rw [hm i hi] at ht; exact ⟨0, ht⟩) (fun k hk t ht m h1 h2 => by
    have e : m = 0 := by omega
    subst e
    rw [hm k hk]
    exact h2)
  rw [nI_0] at b1 b2
  have e : f_X5_closes mn mu = m2 := by unfold f_X5_closes; rw [a2]; show (match f_X5_closes_L28 15 0 m1 with | (_, x) => x) = m2; rw [b2]
  refine ⟨⟨a1, fun x y hxy => ?_⟩, fun i hi => ?_⟩
  · rw [a2] at hxy
    cases hxy
    exact ⟨b1, fun _ _ _ => trivial⟩
  · rw [e]
    refine ⟨b3 i hi, fun j hj => ⟨fun h => b4 i hi j h, fun h => ?_⟩⟩
    obtain ⟨m, hm1, hm2⟩ := (Rc.bound ha hi hj).mp h
    exact b5 i hi j hj m (by omega) hm2
