/-! ===== by a search ===== -/
theorem cb_sub {a b : Int32} (h : Sub a b) : ∀ k, cb a k ≤ cb b k
  | 0 => Nat.le_refl _
  | k + 1 => by
    have ih := cb_sub h k
    rw [cb, cb]
    cases ha : bt a k
    · rw [if_neg (by decide)]
      split <;> omega
    · rw [h k ha]
      omega
theorem cb_sub_lt {a b : Int32} (h : Sub a b) {j : Nat} (ha : bt a j = false) (hb : bt b j = true) : ∀ {k : Nat}, j < k → cb a k < cb b k
  | 0, hk => absurd hk (Nat.not_lt_zero _)
  | k + 1, hk => by
    rw [cb, cb]
    rcases Nat.lt_or_ge j k with q | q
    · have ih := cb_sub_lt h ha hb q
      cases hc : bt a k
      · rw [if_neg (by decide)]
        split <;> omega
      · rw [h k hc]
        omega
    · have e : j = k := by omega
      subst e
      have := cb_sub h j
      rw [ha, hb, if_neg (by decide), if_pos rfl]
      omega
theorem cb_add {a : Int32} {j : Nat} (hj : j < 14) (ha : bt a j = false) : ∀ k, cb (a ||| f_X4_only (nI j)) k = cb a k + (if j < k then 1 else 0)
  | 0 => rfl
  | k + 1 => by
    rw [cb, cb, cb_add hj ha k, b_or]
    rcases Nat.lt_trichotomy j k with q | q | q
    · have e : bt (f_X4_only (nI j)) k = false := by
        cases hc : bt (f_X4_only (nI j)) k
        · rfl
        · have := (only_bT hj).mp hc; omega
      rw [e, Bool.or_false, if_pos q, if_pos (show j < k + 1 by omega)]
      omega
    · subst q
      rw [(only_bT hj).mpr rfl, ha, Bool.or_true, if_neg (Nat.lt_irrefl _), if_pos (Nat.lt_succ_self _), if_pos rfl, if_neg (by decide)]
    · have e : bt (f_X4_only (nI j)) k = false := by
        cases hc : bt (f_X4_only (nI j)) k
        · rfl
        · have := (only_bT hj).mp hc; omega
      rw [e, Bool.or_false, if_neg (show ¬ j < k by omega), if_neg (show ¬ j < k + 1 by omega)]
      omega
theorem cn_add {a : Int32} {j : Nat} (hj : j < 14) (ha : bt a j = false) : cn (a ||| f_X4_only (nI j)) = cn a + 1 := by
  unfold cn
  rw [cb_add hj ha 14, if_pos hj]
theorem cn_sub {a b : Int32} (h : Sub a b) : cn a ≤ cn b := cb_sub h 14
theorem cn_sub_lt {a b : Int32} (h : Sub a b) {j : Nat} (hj : j < 14) (ha : bt a j = false) (hb : bt b j = true) : cn a < cn b := cb_sub_lt h ha hb hj
theorem Btr.cn_le {r s t : Int32} (h : Btr r s t) : cn s ≤ cn t := by unfold Btr at h; omega
theorem Btr.of_cn {r s t : Int32} (h : cn s < cn t) : Btr r s t := Or.inl h
theorem not_Btr_cn {r s t : Int32} (h : cn t < cn s) : ¬ Btr r s t := by unfold Btr; omega
/-- what a search is begun with -/
def Ok (gb : AA) (r p ch un al be : Int32) : Prop := Sub ch p ∧ Sub al p ∧ (∀ k, bt ch k = true → bt al k = false) ∧ (M14 un ∧ ∀ k, k < 14 → (bt un k = true ↔ bt r k = true ∧ ¬ ∃ o, o < 14 ∧ bt ch o = true ∧ (o = k ∨ bt (gb k) o = true))) ∧ Dg gb r p be
/-- what it ends with -/
def SS (gb : AA) (r p ch al be b : Int32) : Prop := Dg gb r p b ∧ (b = be ∨ Btr r b be) ∧ ∀ d, Dg gb r p d → Sub ch d → (∀ k, bt d k = true → bt ch k = true ∨ bt al k = true) → ¬ Btr r d b
theorem barely {al : Int32} {j : Nat} (hj : j < 14) {k : Nat} : bt (al &&& (f_X4_only (nI j) ^^^ (-1))) k = true ↔ bt al k = true ∧ k < 32 ∧ k ≠ j := by
  rw [b_and, Bool.and_eq_true]
  refine and_congr Iff.rfl ?_
  rcases Nat.lt_or_ge k 32 with q | q
  · rw [not_b _ q, Bool.not_eq_true']
    constructor
    · intro h
      refine ⟨q, fun e => ?_⟩
      rw [e, (only_bT hj).mpr rfl] at h; cases h
    · rintro ⟨_, h⟩
      cases hc : bt (f_X4_only (nI j)) k
      · rfl
      · exact absurd ((only_bT hj).mp hc) h
  · rw [b_big q]
    constructor
    · intro h; cases h
    · rintro ⟨h, _⟩; omega
theorem search_L {gn gu gb ga : AA} {r p : Int32} (h : GI gn gu gb ga) (hp : M14 p) {N : Nat} (IH : ∀ ch un al be, 15 ≤ N + cn ch → Ok gb r p ch un al be → p_X0_search r gb ga N (nI (cn ch)) ch un al be ∧ SS gb r p ch al be (f_X0_search r gb ga N (nI (cn ch)) ch un al be))
    {ch un al be : Int32} (hN : 15 ≤ N + 1 + cn ch) (hok : Ok gb r p ch un al be) {m : Nat} (hm : m < 14) (hmb : bt un m = true) (hmn : f_X4_nodeAtPlace un 0 = nI m) : ∀ (c j n : Nat) (fo le : Int32), j + c = 14 → c < n → Dg gb r p fo → (fo = be ∨ Btr r fo be) →
      (∀ d, Dg gb r p d → Sub ch d → (∀ k, bt d k = true → bt ch k = true ∨ bt al k = true) → (∃ k, k < j ∧ bt (f_X1_explainersOf gb (nI m) &&& al) k = true ∧ bt d k = true) → ¬ Btr r d fo) →
      (cn fo ≤ cn ch ∨ ∀ k, bt le k = true ↔ bt al k = true ∧ ¬ (k < j ∧ bt (f_X1_explainersOf gb (nI m) &&& al) k = true)) →
    p_X0_search_L55 gb ga (nI (cn ch)) ch un al (f_X0_search r gb ga N) (p_X0_search r gb ga N) n fo le (nI j) ∧ ∃ b x y, f_X0_search_L55 gb ga (nI (cn ch)) ch un al (f_X0_search r gb ga N) n fo le (nI j) = (b, x, y) ∧ Dg gb r p b ∧ (b = be ∨ Btr r b be) ∧
      (∀ d, Dg gb r p d → Sub ch d → (∀ k, bt d k = true → bt ch k = true ∨ bt al k = true) → (∃ k, k < 14 ∧ bt (f_X1_explainersOf gb (nI m) &&& al) k = true ∧ bt d k = true) → ¬ Btr r d b) := by
  obtain ⟨hch, hal, hdis, hun, hbe⟩ := id hok
  intro c
  induction c with
  | zero =>
    intro j n fo le hj hn hfo hfb hcov _
    obtain ⟨n, rfl⟩ : ∃ k, n = k + 1 := ⟨n - 1, by omega⟩
    have e : j = 14 := by omega
    subst e
    refine ⟨?_, fo, le, nI 14, ?_, hfo, hfb, hcov⟩
    · rw [p_X0_search_L55]; exact ⟨fun _ => trivial, fun h => absurd y14 h⟩
    · rw [f_X0_search_L55, if_pos y14]
  | succ c ih =>
    intro j n fo le hj hn hfo hfb hcov hle
    obtain ⟨n, rfl⟩ : ∃ k, n = k + 1 := ⟨n - 1, by omega⟩
    have hj14 : j < 14 := by omega
    have hcf := cn_le fo
    have hcc := cn_le ch
    obtain ⟨y6, hy6⟩ : ∃ y : Int32, y = (if 14 ≤ nI (cn ch) then (0 : Int32) else (if f_J6_bitCount_0f7a4 fo ≤ nI (cn ch) then (0 : Int32) else (1 : Int32))) := ⟨_, rfl⟩
    have h6 : y6 = 0 ↔ cn fo ≤ cn ch := by
      rw [hy6, count6 (hfo.1.M hp)]
      by_cases q : 14 ≤ cn ch
      · rw [if_pos ((le14 (j := cn ch) (by omega)).mpr q)]
        exact ⟨fun _ => by omega, fun _ => rfl⟩
      · rw [if_neg (fun w => q ((le14 (j := cn ch) (by omega)).mp w))]
        by_cases q2 : cn fo ≤ cn ch
        · rw [if_pos (cnL.mpr q2)]; exact ⟨fun _ => q2, fun _ => rfl⟩
        · rw [if_neg (fun w => q2 (cnL.mp w))]
          exact ⟨fun w => absurd w (by decide), fun w => absurd w q2⟩
    have hh := has4_0 (f_X1_explainersOf gb (nI m) &&& al) (n := j) (by omega)
    -- not tried
    have skip : (bt (f_X1_explainersOf gb (nI m) &&& al) j = false ∨ cn fo ≤ cn ch) → (∀ d, Dg gb r p d → Sub ch d → (∀ k, bt d k = true → bt ch k = true ∨ bt al k = true) → (∃ k, k < j + 1 ∧ bt (f_X1_explainersOf gb (nI m) &&& al) k = true ∧ bt d k = true) → ¬ Btr r d fo) ∧
        (cn fo ≤ cn ch ∨ ∀ k, bt le k = true ↔ bt al k = true ∧ ¬ (k < j + 1 ∧ bt (f_X1_explainersOf gb (nI m) &&& al) k = true)) := fun hs => by
      refine ⟨fun d hd h1 h2 ⟨k, hk, h3, h4⟩ => ?_, ?_⟩
      · rcases Nat.lt_or_ge k j with q | q
        · exact hcov d hd h1 h2 ⟨k, q, h3, h4⟩
        · have e : k = j := by omega
          subst e
          rcases hs with hs | hs
          · rw [hs] at h3; cases h3
          · have hkal : bt al k = true := by
              rw [b_and, Bool.and_eq_true] at h3
              exact h3.2
            have hkc : bt ch k = false := by
              cases hc : bt ch k
              · rfl
              · rw [hdis k hc] at hkal; cases hkal
            have := cn_sub_lt h1 hj14 hkc h4
            exact not_Btr_cn (by omega)
      · rcases hs with hs | hs
        · rcases hle with q | q
          · exact Or.inl q
          · refine Or.inr fun k => (q k).trans (and_congr Iff.rfl (not_congr ⟨fun ⟨a, b⟩ => ⟨by omega, b⟩, fun ⟨a, b⟩ => ⟨?_, b⟩⟩))
            rcases Nat.lt_or_ge k j with z | z
            · exact z
            · rw [show k = j by omega, hs] at b; cases b
        · exact Or.inl hs
    by_cases c1 : f_X4_has (f_X1_explainersOf gb (nI m) &&& al) (nI j) = 0
    · obtain ⟨s1, s2⟩ := skip (Or.inl (hh.mp c1))
      obtain ⟨a1, b, x, y, a2, a3, a4, a5⟩ := ih (j + 1) n fo le (by omega) (by omega) hfo hfb s1 s2
      refine ⟨?_, b, x, y, ?_, a3, a4, a5⟩
      · rw [p_X0_search_L55]
        refine ⟨fun h => absurd h (n14 hj14), fun _ => ⟨⟨fun _ => trivial, fun _ => ⟨fun _ => trivial, fun _ => trivial⟩⟩, fun z hz => ?_⟩⟩
        rw [hmn, nI_1]
        exact ⟨fun _ => a1, fun h => absurd c1 h⟩
      · rw [f_X0_search_L55, if_neg (n14 hj14)]
        dsimp only
        rw [hmn, if_pos c1, nI_1]
        exact a2
    · have hT : bt (f_X1_explainersOf gb (nI m) &&& al) j = true := by
        cases hb : bt (f_X1_explainersOf gb (nI m) &&& al) j
        · exact absurd (hh.mpr hb) c1
        · rfl
      by_cases c2 : y6 = 0
      · obtain ⟨s1, s2⟩ := skip (Or.inr (h6.mp c2))
        obtain ⟨a1, b, x, y, a2, a3, a4, a5⟩ := ih (j + 1) n fo le (by omega) (by omega) hfo hfb s1 s2
        refine ⟨?_, b, x, y, ?_, a3, a4, a5⟩
        · rw [p_X0_search_L55]
          refine ⟨fun h => absurd h (n14 hj14), fun _ => ⟨⟨fun _ => trivial, fun _ => ⟨fun _ => trivial, fun _ => trivial⟩⟩, fun z hz => ?_⟩⟩
          rw [← hy6] at hz
          subst hz
          rw [hmn, nI_1]
          exact ⟨fun h => absurd h c1, fun _ => ⟨fun _ => a1, fun h => absurd c2 h⟩⟩
        · rw [f_X0_search_L55, if_neg (n14 hj14), ← hy6]
          dsimp only
          rw [hmn, if_neg c1, if_pos c2, nI_1]
          exact a2
      · -- tried
        have hlt : cn ch < cn fo := by
          have := (not_congr h6).mp c2
          omega
        have hle2 : ∀ k, bt le k = true ↔ bt al k = true ∧ ¬ (k < j ∧ bt (f_X1_explainersOf gb (nI m) &&& al) k = true) := by
          rcases hle with q | q
          · omega
          · exact q
        have hTj : bt (f_X1_explainersOf gb (nI m)) j = true ∧ bt al j = true := by
          rw [b_and, Bool.and_eq_true] at hT
          exact hT
        have hjc : bt ch j = false := by
          cases hc : bt ch j
          · rfl
          · have := hdis j hc
            rw [hTj.2] at this; cases this
        have hcn : cn (ch ||| f_X4_only (nI j)) = cn ch + 1 := cn_add hj14 hjc
        have hleM : M14 le := fun k hk => by
          cases hb : bt le k
          · rfl
          · have := ((hle2 k).mp hb).1
            rw [hal.M hp k hk] at this; cases this
        have hok2 : Ok gb r p (ch ||| f_X4_only (nI j)) (un &&& (f_X1_explainedBy ga (nI j) ^^^ (-1))) (le &&& (f_X4_only (nI j) ^^^ (-1))) fo := by
          refine ⟨fun k hk => ?_, fun k hk => hal k ((hle2 k).mp ((barely hj14).mp hk).1).1, fun k hk => ?_, ⟨hun.1.and _, fun k hk => ?_⟩, hfo⟩
          · rw [b_or, Bool.or_eq_true, only_bT hj14] at hk
            rcases hk with hk | hk
            · exact hch k hk
            · rw [hk]; exact hal j hTj.2
          · rw [b_or, Bool.or_eq_true, only_bT hj14] at hk
            cases hc : bt (le &&& (f_X4_only (nI j) ^^^ (-1))) k
            · rfl
            · have h1 := (barely hj14).mp hc
              rcases hk with hk | hk
              · have h2 := hdis k hk
                rw [((hle2 k).mp h1.1).1] at h2; cases h2
              · exact absurd hk h1.2.2
          · rw [b_and, Bool.and_eq_true, not_b _ (by omega), Bool.not_eq_true', hun.2 k hk]
            constructor
            · rintro ⟨⟨h1, h2⟩, h3⟩
              refine ⟨h1, fun ⟨o, ho, h4, h5⟩ => ?_⟩
              rw [b_or, Bool.or_eq_true, only_bT hj14] at h4
              rcases h4 with h4 | h4
              · exact h2 ⟨o, ho, h4, h5⟩
              · subst h4
                have : bt (f_X1_explainedBy ga (nI o)) k = true := (explainedBy_b hj14).mpr (h5.elim (fun q => Or.inl q.symm) (fun q => Or.inr ((h.ba hk hj14).mpr q)))
                rw [this] at h3; cases h3
            · rintro ⟨h1, h2⟩
              refine ⟨⟨h1, fun ⟨o, ho, h4, h5⟩ => h2 ⟨o, ho, by rw [b_or, h4]; rfl, h5⟩⟩, ?_⟩
              cases hc : bt (f_X1_explainedBy ga (nI j)) k
              · rfl
              · exfalso
                refine h2 ⟨j, hj14, by rw [b_or, (only_bT hj14).mpr rfl, Bool.or_true], ?_⟩
                exact ((explainedBy_b hj14).mp hc).elim (fun q => Or.inl q.symm) (fun q => Or.inr ((h.ba hk hj14).mp q))
        obtain ⟨r1, r2⟩ := IH _ _ _ _ (by rw [hcn]; omega) hok2
        rw [hcn, ← nI_1] at r1 r2
        obtain ⟨g1, g2, g3⟩ := r2
        have hgb : f_X0_search r gb ga N (nI (cn ch) + 1) (ch ||| f_X4_only (nI j)) (un &&& (f_X1_explainedBy ga (nI j) ^^^ (-1))) (le &&& (f_X4_only (nI j) ^^^ (-1))) fo = be ∨ Btr r (f_X0_search r gb ga N (nI (cn ch) + 1) (ch ||| f_X4_only (nI j)) (un &&& (f_X1_explainedBy ga (nI j) ^^^ (-1))) (le &&& (f_X4_only (nI j) ^^^ (-1))) fo) be := by
          rcases g2 with q | q
          · rw [q]; exact hfb
          · rcases hfb with w | w
            · rw [w] at q; exact Or.inr (by rw [w]; exact q)
            · exact Or.inr (q.trans w)
        have mono : ∀ d, ¬ Btr r d fo → ¬ Btr r d (f_X0_search r gb ga N (nI (cn ch) + 1) (ch ||| f_X4_only (nI j)) (un &&& (f_X1_explainedBy ga (nI j) ^^^ (-1))) (le &&& (f_X4_only (nI j) ^^^ (-1))) fo) := fun d hd => by
          rcases g2 with q | q
          · rw [q]; exact hd
          · exact fun z => hd (z.trans q)
        obtain ⟨a1, b, x, y, a2, a3, a4, a5⟩ := ih (j + 1) n _ (le &&& (f_X4_only (nI j) ^^^ (-1))) (by omega) (by omega) g1 hgb (fun d hd h1 h2 ⟨k, hk, h3, h4⟩ => by
          by_cases w : ∃ k, k < j ∧ bt (f_X1_explainersOf gb (nI m) &&& al) k = true ∧ bt d k = true
          · exact mono d (hcov d hd h1 h2 w)
          · have e : k = j := by
              rcases Nat.lt_or_ge k j with q | q
              · exact absurd ⟨k, q, h3, h4⟩ w
              · omega
            subst e
            refine g3 d hd (fun t ht => ?_) (fun t ht => ?_)
            · rw [b_or, Bool.or_eq_true, only_bT hj14] at ht
              rcases ht with ht | ht
              · exact h1 t ht
              · rw [ht]; exact h4
            · rw [b_or, Bool.or_eq_true, only_bT hj14, barely hj14, hle2 t]
              by_cases et : t = k
              · exact Or.inl (Or.inr et)
              · rcases h2 t ht with q | q
                · exact Or.inl (Or.inl q)
                · have := (hd.1.M hp).lt ht
                  exact Or.inr ⟨⟨q, fun ⟨z1, z2⟩ => w ⟨t, z1, z2, ht⟩⟩, by omega, et⟩) (Or.inr fun k => by
          rw [barely hj14, hle2 k]
          constructor
          · rintro ⟨⟨q1, q2⟩, _, q3⟩
            refine ⟨q1, fun ⟨z1, z2⟩ => ?_⟩
            rcases Nat.lt_or_ge k j with w | w
            · exact q2 ⟨w, z2⟩
            · exact q3 (by omega)
          · rintro ⟨q1, q2⟩
            have hk14 := (hal.M hp).lt q1
            refine ⟨⟨q1, fun ⟨z1, z2⟩ => q2 ⟨by omega, z2⟩⟩, by omega, fun e => ?_⟩
            subst e
            exact q2 ⟨Nat.lt_succ_self _, hT⟩)
        refine ⟨?_, b, x, y, ?_, a3, a4, a5⟩
        · rw [p_X0_search_L55]
          refine ⟨fun h => absurd h (n14 hj14), fun _ => ⟨⟨fun _ => trivial, fun _ => ⟨fun _ => trivial, fun _ => trivial⟩⟩, fun z hz => ?_⟩⟩
          rw [← hy6] at hz
          subst hz
          rw [hmn]
          refine ⟨fun h => absurd h c1, fun _ => ⟨fun h => absurd h c2, fun _ => ⟨⟨in14 hj14, trivial⟩, r1, fun z hz => ?_⟩⟩⟩
          rw [← hz, nI_1 j]
          exact a1
        · rw [f_X0_search_L55, if_neg (n14 hj14), ← hy6]
          dsimp only
          rw [hmn, if_neg c1, if_neg c2, nI_1 j]
          exact a2
theorem search_spec {gn gu gb ga : AA} {r p : Int32} (h : GI gn gu gb ga) (hr : M14 r) (hp : M14 p) : ∀ (n : Nat) (ch un al be : Int32), 15 ≤ n + cn ch → Ok gb r p ch un al be → p_X0_search r gb ga n (nI (cn ch)) ch un al be ∧ SS gb r p ch al be (f_X0_search r gb ga n (nI (cn ch)) ch un al be) := by
  intro n
  induction n with
  | zero =>
    intro ch un al be hn _
    have := cn_le ch
    omega
  | succ n ih =>
    intro ch un al be hn hok
    obtain ⟨hch, hal, hdis, hun, hbe⟩ := id hok
    have hnp := (nap_spec un 0).1
    rcases nap0 un with ⟨m, hm, hmb, _, hmn⟩ | ⟨hz, hmn⟩
    · have hne : ¬ f_X4_nodeAtPlace un 0 = -1 := by rw [hmn]; exact nI_neg1 hm
      obtain ⟨a1, b, x, y, a2, a3, a4, a5⟩ := search_L h hp ih hn hok hm hmb hmn 14 0 15 be al rfl (by decide) hbe (Or.inl rfl) (fun d _ _ _ ⟨k, hk, _⟩ => absurd hk (Nat.not_lt_zero _)) (Or.inr fun k => ⟨fun q => ⟨q, fun z => absurd z.1 (Nat.not_lt_zero _)⟩, fun q => q.1⟩)
      rw [nI_0] at a1 a2
      constructor
      · rw [p_X0_search]
        refine ⟨hnp, fun q => absurd q hne, fun _ => ⟨?_, a1, fun _ _ _ _ => trivial⟩⟩
        rw [hmn]
        exact ⟨in14 hm, trivial⟩
      · rw [f_X0_search, if_neg hne, a2]
        refine ⟨a3, a4, fun d hd h1 h2 => a5 d hd h1 h2 ?_⟩
        obtain ⟨h3, h4⟩ := (hun.2 m hm).mp hmb
        obtain ⟨o, ho, h5, h6⟩ := hd.2 m hm h3
        have hoc : ¬ bt ch o = true := fun q => h4 ⟨o, ho, q, h6⟩
        refine ⟨o, ho, ?_, h5⟩
        rw [b_and, Bool.and_eq_true]
        exact ⟨(explainersOf_b hm).mpr h6, (h2 o h5).resolve_left hoc⟩
    · have hchD : Dg gb r p ch := ⟨hch, fun k hk hb => Classical.byContradiction fun w => by
        have := hz k hk
        rw [(hun.2 k hk).mpr ⟨hb, w⟩] at this
        cases this⟩
      obtain ⟨q1, q2⟩ := better4 (r := r) (hch.M hp) (hbe.1.M hp)
      constructor
      · rw [p_X0_search]
        exact ⟨hnp, fun _ => ⟨q1, ⟨fun _ => trivial, fun _ => trivial⟩, fun _ _ => trivial⟩, fun q => absurd hmn q⟩
      · rw [f_X0_search, if_pos hmn]
        dsimp only
        have hd0 : ∀ d, Dg gb r p d → Sub ch d → d = ch ∨ cn ch < cn d := fun d hd h1 => by
          by_cases w : ∃ j, j < 14 ∧ bt ch j = false ∧ bt d j = true
          · obtain ⟨j, hj, w1, w2⟩ := w
            exact Or.inr (cn_sub_lt h1 hj w1 w2)
          · refine Or.inl (M14.ext (hd.1.M hp) (hch.M hp) fun i hi => ?_)
            cases hc : bt ch i
            · cases hb : bt d i
              · rfl
              · exact absurd ⟨i, hi, hc, hb⟩ w
            · exact h1 i hc
        by_cases c : f_X0_isBetter r ch be = 0
        · rw [if_pos c]
          refine ⟨hbe, Or.inl rfl, fun d hd h1 _ hB => ?_⟩
          rcases hd0 d hd h1 with e | e
          · rw [e] at hB; exact (q2.mp c) hB
          · exact (q2.mp c) ((Btr.of_cn e).trans hB)
        · rw [if_neg c]
          have hB : Btr r ch be := Classical.byContradiction fun w => c (q2.mpr w)
          refine ⟨hchD, Or.inr hB, fun d hd h1 _ => ?_⟩
          rcases hd0 d hd h1 with e | e
          · rw [e]; exact Btr.irr
          · exact not_Btr_cn e
theorem search_best {gn gu gb ga : AA} {r : Int32} (h : GI gn gu gb ga) (hr : M14 r) : p_X0_bestBySearch r (f_X0_plausibleOf gu r) gb ga ∧ Bst gb r (f_X0_plausibleOf gu r) (f_X0_bestBySearch r (f_X0_plausibleOf gu r) gb ga) := by
  obtain ⟨-, hpM, -⟩ := plOf h.2.1 hr
  have h0 : cn 0 = 0 := by decide
  have hok : Ok gb r (f_X0_plausibleOf gu r) 0 r (f_X0_plausibleOf gu r) r := ⟨fun k hk => (by rw [b_0] at hk; cases hk), fun k hk => hk, fun k hk => (by rw [b_0] at hk; cases hk), ⟨hr, fun k _ => ⟨fun q => ⟨q, fun ⟨o, _, h1, _⟩ => (by rw [b_0] at h1; cases h1)⟩, fun q => q.1⟩⟩, plSub h.2.1 hr, EX.self gb r⟩
  obtain ⟨a1, a2⟩ := search_spec h hr hpM 16 0 r (f_X0_plausibleOf gu r) r (by omega) hok
  rw [h0, nI_0] at a1 a2
  obtain ⟨a3, _, a4⟩ := a2
  exact ⟨⟨a1, trivial⟩, a3, fun d hd => a4 d hd (fun k hk => by rw [b_0] at hk; cases hk) (fun k hk => Or.inr (hd.1 k hk))⟩
