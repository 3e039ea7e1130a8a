theorem only_bT {n i : Nat} (hn : n < 14) : bt (f_X4_only (nI n)) i = true ↔ i = n := by rw [only_b hn]; exact decide_eq_true_iff
theorem NR.put {g : AA} {i j x y : Nat} (hj : j < 14) : NR (upd g i (g i ||| f_X4_only (nI j))) x y ↔ NR g x y ∨ (x = i ∧ y = j) := by
  unfold NR
  rw [upd_at]
  by_cases e : x = i
  · subst e
    rw [if_pos rfl, b_or, Bool.or_eq_true, only_bT hj]
    simp
  · rw [if_neg e]
    simp [e]
theorem NR.cut {g : AA} (hg : RM g) {i j x y : Nat} (hx : x < 14) (hj : j < 14) : NR (upd g i (g i &&& (f_X4_only (nI j) ^^^ (-1)))) x y ↔ NR g x y ∧ ¬ (x = i ∧ y = j) := by
  unfold NR
  rw [upd_at]
  by_cases e : x = i
  · subst e
    rw [if_pos rfl, b_and, Bool.and_eq_true]
    constructor
    · rintro ⟨h1, h2⟩
      have hy := (hg x hx).lt h1
      rw [not_b _ (by omega), Bool.not_eq_true'] at h2
      refine ⟨h1, fun ⟨_, h⟩ => ?_⟩
      subst h
      rw [(only_bT hj).mpr rfl] at h2
      cases h2
    · rintro ⟨h1, h2⟩
      have hy := (hg x hx).lt h1
      refine ⟨h1, ?_⟩
      rw [not_b _ (by omega), Bool.not_eq_true']
      cases hb : bt (f_X4_only (nI j)) y
      · rfl
      · exact absurd ⟨rfl, (only_bT hj).mp hb⟩ h2
  · rw [if_neg e]
    simp [e]
theorem RM.put {g : AA} (h : RM g) {i j : Nat} (hj : j < 14) : RM (upd g i (g i ||| f_X4_only (nI j))) := fun x hx => by
  rw [upd_at]
  by_cases e : x = i
  · subst e; rw [if_pos rfl]; exact (h x hx).or (only_M hj)
  · rw [if_neg e]; exact h x hx
theorem RM.cut {g : AA} (h : RM g) {i : Nat} (y : Int32) : RM (upd g i (g i &&& y)) := fun x hx => by
  rw [upd_at]
  by_cases e : x = i
  · subst e; rw [if_pos rfl]; exact (h x hx).and y
  · rw [if_neg e]; exact h x hx
theorem link_spec {gn gu gb ga : AA} (h : GI gn gu gb ga) {i j : Nat} (hi : i < 14) (hj : j < 14) (hij : i ≠ j) (hr : ¬ Rc (NR gn) j i) :
    p_X1_link gn gu gb ga (nI i) (nI j) ∧ ∃ gn' gu' gb' ga', f_X1_link gn gu gb ga (nI i) (nI j) = (if bt (gn i) j then 0 else 1, gn', gu', gb', ga') ∧ GI gn' gu' gb' ga' ∧ ∀ k, k < 14 → gn' k = upd gn i (gn i ||| f_X4_only (nI j)) k := by
  obtain ⟨hn, hu, han, ht, -, -⟩ := id h
  have m := GI.made (gb := gb) (ga := ga) (RM.put hn (i := i) hj) (RM.put hu (i := j) hi) (Ac.cong (fun x y _ _ => (NR.put hj).symm) (Ac.link han hi hj hij hr)) (fun x y hx hy => by rw [NR.put hi, NR.put hj, ht x y hx hy]; exact or_congr Iff.rfl ⟨fun ⟨a, b⟩ => ⟨b, a⟩, fun ⟨a, b⟩ => ⟨b, a⟩⟩)
  obtain ⟨hp, b, a, hf, hG⟩ := m
  constructor
  · unfold p_X1_link
    rw [cl (j := i) (by omega), cl (j := j) (by omega)]
    exact ⟨in14 hi, fun _ => ⟨in14 hi, in14 hi, in14 hj, in14 hj, hp, fun _ _ _ => trivial⟩, fun _ => trivial⟩
  · unfold f_X1_link
    rw [cl (j := i) (by omega), cl (j := j) (by omega)]
    cases hb : bt (gn i) j
    · rw [if_pos ((has4_0 _ (by omega)).mpr hb), hf]
      exact ⟨_, _, _, _, rfl, hG, fun _ _ => rfl⟩
    · rw [if_neg (fun c => by rw [(has4_0 _ (by omega)).mp c] at hb; cases hb)]
      refine ⟨_, _, _, _, rfl, h, fun k hk => ?_⟩
      rw [upd_at]
      by_cases e : k = i
      · subst e
        rw [if_pos rfl]
        refine M14.extT (hn k hk) ((hn k hk).or (only_M hj)) fun t ht => ?_
        rw [b_or, Bool.or_eq_true, only_bT hj]
        exact ⟨Or.inl, fun q => q.elim id (fun q => by rw [q]; exact hb)⟩
      · rw [if_neg e]
theorem unlink_spec {gn gu gb ga : AA} (h : GI gn gu gb ga) {i j : Nat} (hi : i < 14) (hj : j < 14) :
    p_X1_unlink gn gu gb ga (nI i) (nI j) ∧ ∃ gn' gu' gb' ga', f_X1_unlink gn gu gb ga (nI i) (nI j) = (if bt (gn i) j then 1 else 0, gn', gu', gb', ga') ∧ GI gn' gu' gb' ga' ∧ ∀ k, k < 14 → gn' k = upd gn i (gn i &&& (f_X4_only (nI j) ^^^ (-1))) k := by
  obtain ⟨hn, hu, han, ht, -, -⟩ := id h
  have m := GI.made (gb := gb) (ga := ga) (RM.cut hn (i := i) (f_X4_only (nI j) ^^^ (-1))) (RM.cut hu (i := j) (f_X4_only (nI i) ^^^ (-1))) (Ac.cong (N := fun x y => NR gn x y ∧ ¬ (x = i ∧ y = j)) (fun x y hx _ => (NR.cut hn hx hj).symm) (han.mono (fun _ _ q => q.1))) (fun x y hx hy => by
    rw [NR.cut hu hy hi, NR.cut hn hx hj, ht x y hx hy]; exact and_congr Iff.rfl (not_congr ⟨fun ⟨a, b⟩ => ⟨b, a⟩, fun ⟨a, b⟩ => ⟨b, a⟩⟩))
  obtain ⟨hp, b, a, hf, hG⟩ := m
  constructor
  · unfold p_X1_unlink
    rw [cl (j := i) (by omega), cl (j := j) (by omega)]
    exact ⟨in14 hi, fun _ => trivial, fun _ => ⟨in14 hi, in14 hi, in14 hj, in14 hj, hp, fun _ _ _ => trivial⟩⟩
  · unfold f_X1_unlink
    rw [cl (j := i) (by omega), cl (j := j) (by omega)]
    cases hb : bt (gn i) j
    · rw [if_pos ((has4_0 _ (by omega)).mpr hb)]
      refine ⟨_, _, _, _, rfl, h, fun k hk => ?_⟩
      rw [upd_at]
      by_cases e : k = i
      · subst e
        rw [if_pos rfl]
        refine M14.extT (hn k hk) ((hn k hk).and _) fun t ht => ?_
        rw [b_and, Bool.and_eq_true, not_b _ (by omega)]
        refine ⟨fun q => ⟨q, ?_⟩, fun q => q.1⟩
        rw [Bool.not_eq_true']
        cases hc : bt (f_X4_only (nI j)) t
        · rfl
        · rw [(only_bT hj).mp hc, hb] at q; cases q
      · rw [if_neg e]
    · rw [if_neg (fun c => by rw [(has4_0 _ (by omega)).mp c] at hb; cases hb), hf]
      exact ⟨_, _, _, _, rfl, hG, fun _ _ => rfl⟩
/-! ===== the reference's closing ===== -/
def BM (mu : AA) : Prop := ∀ i, i < 14 → M14 (mu i)
def Sd (T : Nat → Nat → Prop) (mu : AA) : Prop := ∀ i, i < 14 → ∀ t, bt (mu i) t = true → T i t
