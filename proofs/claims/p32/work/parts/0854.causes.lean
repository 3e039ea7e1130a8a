/-! ===== the best diagnosis by its places ===== -/
theorem cause_at {B : Int32} {k : Nat} (hk : k < cn B) : ∃ x, x < 14 ∧ bt B x = true ∧ cb B x = k ∧ f_X4_nodeAtPlace B (nI k) = nI x := by
  have hc := cn_le B
  rcases (nap_spec B (nI k)).2 with ⟨x, h1, h2, h3, h4⟩ | ⟨h1, h2⟩
  · have hb := cb_le B x
    exact ⟨x, h1, h2, ((nI_eq (by omega) (by omega)).mp h3).symm, h4⟩
  · obtain ⟨x, h3, h4, h5⟩ := cb_kth (x := B) (c := k) (n := 14) hk
    exact absurd (by rw [h5]) (h1 x h3 h4)
def LaS (B : Int32) (k : Nat) (last : Int32) : Prop := (k = 0 ∧ last = -1) ∨ ∃ x, x < 14 ∧ bt B x = true ∧ cb B x + 1 = k ∧ last = nI x
theorem nI_nlem1 {k : Nat} (hk : k < 14) : ¬ nI k ≤ -1 := (by decide +kernel : ∀ k, k < 14 → ¬ nI k ≤ -1) k hk
theorem causes_S {gn gu gb ga : AA} (h : GI gn gu gb ga) {r : Int32} (hr : M14 r) : ∀ (c k n : Nat) (v last : Int32), k + c = cn (BB gu gb ga r) → c < n → (∀ t, bt v t = true ↔ bt (BB gu gb ga r) t = true ∧ cb (BB gu gb ga r) t < k) → LaS (BB gu gb ga r) k last →
    p_L_causes_L252 r gu gb ga n 1 v last (nI k) ∧ ∃ l', f_L_causes_L252 r gu gb ga n 1 v last (nI k) = (1, BB gu gb ga r, l', nI (cn (BB gu gb ga r))) := by
  have k1 : ¬ (1 : Int32) = 0 := by decide
  have hBM := BB_M h hr
  have hcn := cn_le (BB gu gb ga r)
  obtain ⟨pc, ec⟩ := q_causes h hr
  intro c
  induction c with
  | zero =>
    intro k n v last hk hn hv _
    obtain ⟨n, rfl⟩ : ∃ k, n = k + 1 := ⟨n - 1, by omega⟩
    have e : k = cn (BB gu gb ga r) := by omega
    subst e
    have l : f_X4_causes r gu gb ga ≤ nI (cn (BB gu gb ga r)) := by rw [ec]; exact nI_le (Nat.le_refl _) (by omega)
    have ev : v = BB gu gb ga r := b_ext fun i _ => Bool.eq_iff_iff.mpr ⟨fun q => ((hv i).mp q).1, fun q => (hv i).mpr ⟨q, by
      have h1 := cb_strict q (Nat.lt_succ_self i)
      have h2 := cb_mono (BB gu gb ga r) (a := i + 1) (b := 14) (hBM.lt q)
      exact Nat.lt_of_lt_of_le h1 h2⟩⟩
    refine ⟨?_, last, ?_⟩
    · rw [p_L_causes_L252]; exact ⟨pc, fun _ => trivial, fun q => absurd l q⟩
    · rw [f_L_causes_L252, if_pos l, ev]
  | succ c ih =>
    intro k n v last hk hn hv hl
    obtain ⟨n, rfl⟩ : ∃ k, n = k + 1 := ⟨n - 1, by omega⟩
    have hkc : k < cn (BB gu gb ga r) := by omega
    have l : ¬ f_X4_causes r gu gb ga ≤ nI k := by rw [ec]; exact nI_ge hkc (by omega)
    obtain ⟨x, x14, xb, xc, xn⟩ := cause_at hkc
    obtain ⟨p1, e1⟩ := q_cause h hr (nI k)
    obtain ⟨p2, e2⟩ := q_tried h hr (nI k)
    rw [xn, if_neg (nI_neg1 x14)] at e1 e2
    have hlt : ¬ nI x ≤ last := by
      rcases hl with ⟨-, e⟩ | ⟨y, y14, yb, yc, e⟩
      · rw [e]; exact nI_nlem1 x14
      · rw [e]
        intro q
        have q2 := (nI_leI (by omega) (by omega)).mp q
        have := cb_mono (BB gu gb ga r) q2
        omega
    have e39 : (if f_L_cause r gu gb ga (nI k) ≤ last then (0 : Int32) else (if 14 ≤ f_L_cause r gu gb ga (nI k) then (0 : Int32) else (if f_L_tried r gu gb (nI k) = f_L_cause r gu gb ga (nI k) then (1 : Int32) else (0 : Int32)))) = 1 := by
      rw [e1, e2, if_neg hlt, if_neg (n14 x14), if_pos rfl]
    obtain ⟨a1, l', a2⟩ := ih (k + 1) n (v ||| (1 <<< (nI x &&& 31))) (nI x) (by omega) (by omega) (fun t => by
      rw [b_or, Bool.or_eq_true, hv t, one_eq, only_bT x14]
      constructor
      · rintro (⟨q1, q2⟩ | q)
        · exact ⟨q1, by omega⟩
        · rw [q]; exact ⟨xb, by omega⟩
      · rintro ⟨q1, q2⟩
        rcases Nat.lt_or_ge (cb (BB gu gb ga r) t) k with w | w
        · exact Or.inl ⟨q1, w⟩
        · exact Or.inr (cb_inj q1 xb (by omega))) (Or.inr ⟨x, x14, xb, by omega, rfl⟩)
    refine ⟨?_, l', ?_⟩
    · rw [p_L_causes_L252]
      refine ⟨pc, fun q => absurd q l, fun _ => ⟨fun _ => trivial, fun _ => ⟨p1, ⟨fun _ => trivial, fun _ => ⟨fun _ => trivial, fun _ => ⟨p2, fun _ => trivial, fun _ => trivial⟩⟩⟩, fun y q => ?_⟩⟩⟩
      rw [e39] at q
      subst q
      rw [e1, nI_1]
      exact a1
    · rw [f_L_causes_L252, if_neg l, if_neg k1, e39]
      dsimp only
      rw [e1, nI_1]
      exact a2
theorem q_causesL {gn gu gb ga : AA} (h : GI gn gu gb ga) {r : Int32} (hr : M14 r) : p_L_causes_L252 r gu gb ga 15 1 0 (-1) 0 ∧ ∃ l', f_L_causes_L252 r gu gb ga 15 1 0 (-1) 0 = (1, BB gu gb ga r, l', nI (cn (BB gu gb ga r))) := by
  have hcn := cn_le (BB gu gb ga r)
  have a := causes_S h hr (cn (BB gu gb ga r)) 0 15 0 (-1) (Nat.zero_add _) (by omega) (fun t => by
    rw [b_0]
    exact ⟨fun q => (by cases q), fun q => absurd q.2 (Nat.not_lt_zero _)⟩) (Or.inl ⟨rfl, rfl⟩)
  rw [nI_0] at a
  exact a
/-! ===== the greedy diagnosis ===== -/
theorem gk_val {gn gu gb ga kl : AA} (h : GI gn gu gb ga) (hE : EE ga kl) (p u : Int32) {j : Nat} (hj : j < 14) : (if (p >>> (nI j &&& 31)) &&& 1 = 1 then f_L_size (kl (nI j).toNatClampNeg &&& u) else (0 : Int32)) = nI (Gk p ga u j) := by
  have hs := sh1 p (n := j) (by omega)
  rw [cl (by omega), hE j hj, (q_size _).2]
  unfold Gk
  by_cases c : (p >>> (nI j &&& 31)) &&& 1 = 1
  · rw [if_pos c, if_pos (hs.mp c)]
  · rw [if_neg c, if_neg (fun q => c (hs.mpr q))]; rfl
theorem tie_S {gn gu gb ga kl : AA} (h : GI gn gu gb ga) {r : Int32} (hE : EE ga kl) {p u : Int32} {a : Int32} {g : Nat} (hg : g < 14) (hpg : bt p g = true) (hgr : f_L_greedy r gu ga a = nI g) (hb : ∀ k, k < 14 → Gk p ga u k ≤ Gk p ga u g ∧ (Gk p ga u k = Gk p ga u g → Bs r g k)) : ∀ (c j n : Nat), j + c = 14 → c < n →
    p_L_causes_L451 r gu ga r kl p u a n 1 (nI j) ∧ f_L_causes_L451 r gu ga r kl p u a n 1 (nI j) = (1, nI 14) := by
  have k1 : ¬ (1 : Int32) = 0 := by decide
  have yg : f_L_size (kl g &&& u) = nI (Gk p ga u g) := by
    rw [hE g hg, (q_size _).2]
    unfold Gk
    rw [if_pos hpg]
  intro c
  induction c with
  | zero =>
    intro j n hj hn
    obtain ⟨n, rfl⟩ : ∃ k, n = k + 1 := ⟨n - 1, by omega⟩
    have e : j = 14 := by omega
    subst e
    refine ⟨?_, ?_⟩
    · rw [p_L_causes_L451]; exact ⟨fun _ => trivial, fun h => absurd y14 h⟩
    · rw [f_L_causes_L451, if_pos y14]
  | succ c ih =>
    intro j n hj hn
    obtain ⟨n, rfl⟩ : ∃ k, n = k + 1 := ⟨n - 1, by omega⟩
    have hj14 : j < 14 := by omega
    have e69 := gk_val h hE p u hj14
    have l1 := Gk_le p ga u j
    have l2 := Gk_le p ga u g
    have s1 := sh1 r (n := g) (by omega)
    have s2 := sh1 r (n := j) (by omega)
    obtain ⟨z76, h76⟩ : ∃ z : Int32, z = (if (r >>> (nI g &&& 31)) &&& 1 = 1 then (1 : Int32) else (0 : Int32)) := ⟨_, rfl⟩
    obtain ⟨z78, h78⟩ : ∃ z : Int32, z = (if (r >>> (nI j &&& 31)) &&& 1 = 1 then (1 : Int32) else (0 : Int32)) := ⟨_, rfl⟩
    have f76 : z76 = if bt r g = true then 1 else 0 := by
      rw [h76]
      by_cases q : bt r g = true
      · rw [if_pos (s1.mpr q), if_pos q]
      · rw [if_neg (fun w => q (s1.mp w)), if_neg q]
    have f78 : z78 = if bt r j = true then 1 else 0 := by
      rw [h78]
      by_cases q : bt r j = true
      · rw [if_pos (s2.mpr q), if_pos q]
      · rw [if_neg (fun w => q (s2.mp w)), if_neg q]
    have e80 : (if nI (Gk p ga u j) < nI (Gk p ga u g) then (1 : Int32) else (if nI (Gk p ga u j) = nI (Gk p ga u g) then (if z76 = 0 then (if z76 = z78 then (if nI j < nI g then (0 : Int32) else (1 : Int32)) else (0 : Int32)) else (if z78 = 0 then (1 : Int32) else (if z76 = z78 then (if nI j < nI g then (0 : Int32) else (1 : Int32)) else (0 : Int32)))) else (0 : Int32))) = 1 := by
      obtain ⟨b1, b2⟩ := hb j hj14
      obtain ⟨i1, i2, -⟩ := gI l1 l2
      by_cases c1 : Gk p ga u j < Gk p ga u g
      · rw [if_pos (i1.mpr c1)]
      · have c2 : Gk p ga u j = Gk p ga u g := by omega
        rw [if_neg (fun q => c1 (i1.mp q)), if_pos (i2.mpr c2)]
        rcases b2 c2 with ⟨d1, d2⟩ | ⟨d1, d2⟩
        · have g1 : z76 = 1 := by rw [f76, if_pos d1]
          have g2 : z78 = 0 := by rw [f78, d2]; exact if_neg (by decide)
          rw [g1, g2, if_neg k1, if_pos rfl]
        · have g1 : z76 = z78 := by rw [f76, f78, d1]
          have g2 : ¬ nI j < nI g := nI_nlt d2 (by omega)
          rw [if_neg g2, if_pos g1, ← g1]
          by_cases d3 : z76 = 0
          · rw [if_pos d3]
          · rw [if_neg d3, if_neg d3]
    obtain ⟨a1, a2⟩ := ih (j + 1) n (by omega) (by omega)
    refine ⟨?_, ?_⟩
    · rw [p_L_causes_L451]
      refine ⟨fun q => absurd q (n14 hj14), fun _ => ⟨fun _ => trivial, fun _ => ⟨⟨fun _ => ⟨in14 hj14, (q_size _).1, trivial⟩, fun _ => trivial⟩, fun y69 q69 => ?_⟩⟩⟩
      rw [e69] at q69
      subst q69
      rw [hgr, cl (by omega)]
      refine ⟨in14 hg, (q_size _).1, fun y75 q75 => ?_⟩
      rw [yg] at q75
      subst q75
      refine ⟨⟨fun _ => trivial, fun _ => trivial⟩, fun y76 q76 => ⟨⟨fun _ => trivial, fun _ => trivial⟩, fun y78 q78 => ?_⟩⟩
      rw [← h76] at q76
      subst q76
      rw [← h78] at q78
      subst q78
      refine ⟨⟨fun _ => trivial, fun _ => ⟨fun _ => ⟨fun _ => ⟨fun _ => ⟨fun _ => trivial, fun _ => trivial⟩, fun _ => trivial⟩, fun _ => ⟨fun _ => trivial, fun _ => ⟨fun _ => ⟨fun _ => trivial, fun _ => trivial⟩, fun _ => trivial⟩⟩⟩, fun _ => trivial⟩⟩, fun y80 q80 => ?_⟩
      rw [e80] at q80
      subst q80
      rw [nI_1]
      exact a1
    · rw [f_L_causes_L451, if_neg (n14 hj14), if_neg k1, e69, hgr, cl (by omega), yg, ← h76, ← h78]
      dsimp only
      rw [e80, nI_1]
      exact a2
theorem greedy_at {gn gu gb ga : AA} (h : GI gn gu gb ga) {r : Int32} (hr : M14 r) {t g : Nat} (ht : t < 14) (hg : g < 14) (hne : Gu gu ga r t ≠ 0) (he : f_X0_greedyNext r (f_X0_plausibleOf gu r) ga (Gu gu ga r t) = nI g) : f_L_greedy r gu ga (nI t) = nI g := by
  have e : f_X0_greedyAt r (f_X0_plausibleOf gu r) ga (nI t) = nI g := by
    rcases (gat h hr (nI t)).2 with ⟨k, k1, k2, k3⟩ | ⟨k1, -⟩
    · have ek : t = k := (nI_eq (by omega) (by omega)).mp k2
      rw [k3, ← ek]
      unfold Gn
      rw [if_neg hne, he]
    · exact absurd rfl (k1 t ht)
  rw [(q_greedy h hr _).2, e, if_neg (nI_neg1 hg)]
theorem greedy_S {gn gu gb ga kl : AA} (h : GI gn gu gb ga) {r : Int32} (hr : M14 r) (hE : EE ga kl) {K : Nat} (hK : K ≤ 14) (eK : f_X4_greedyCauses r gu ga = nI K) (hz : Gu gu ga r K = 0) (hnz : ∀ s, s < K → Gu gu ga r s ≠ 0) : ∀ (c t n : Nat), t + c = K → c < n →
    p_L_causes_L396 r gu ga r kl (PP gu r) n 1 (Gu gu ga r t) (nI t) ∧ ∃ z, f_L_causes_L396 r gu ga r kl (PP gu r) n 1 (Gu gu ga r t) (nI t) = (1, z, nI K) ∧ z = 0 := by
  have k1 : ¬ (1 : Int32) = 0 := by decide
  intro c
  induction c with
  | zero =>
    intro t n ht hn
    obtain ⟨n, rfl⟩ : ∃ k, n = k + 1 := ⟨n - 1, by omega⟩
    have e : t = K := by omega
    subst e
    have l : f_X4_greedyCauses r gu ga ≤ nI t := by rw [eK]; exact nI_le (Nat.le_refl _) (by omega)
    refine ⟨?_, Gu gu ga r t, ?_, hz⟩
    · rw [p_L_causes_L396]; exact ⟨fun _ => trivial, fun q => absurd l q⟩
    · rw [f_L_causes_L396, if_pos l]
  | succ c ih =>
    intro t n ht hn
    obtain ⟨n, rfl⟩ : ∃ k, n = k + 1 := ⟨n - 1, by omega⟩
    have htK : t < K := by omega
    have l : ¬ f_X4_greedyCauses r gu ga ≤ nI t := by rw [eK]; exact nI_ge htK (by omega)
    obtain ⟨-, g, hg, e1, hG, hpg, ⟨x, x14, x1, x2⟩, hb⟩ := Gu_step h hr (hnz t htK)
    have hgr := greedy_at h hr (by omega) hg (hnz t htK) e1
    obtain ⟨b1, b2⟩ := tie_S (u := Gu gu ga r t) (p := PP gu r) h hE hg hpg hgr hb 14 0 15 rfl (by decide)
    rw [nI_0] at b1 b2
    have hne : ¬ kl g &&& Gu gu ga r t = 0 := fun q => by
      have : bt (kl g &&& Gu gu ga r t) x = true := by rw [b_and, hE g hg, x1, x2]; rfl
      rw [q, b_0] at this
      cases this
    have e61 : (if nI g < 0 then (0 : Int32) else (if (PP gu r >>> (nI g &&& 31)) &&& 1 = 1 then (if kl g &&& Gu gu ga r t = 0 then (0 : Int32) else (1 : Int32)) else (0 : Int32))) = 1 := by
      rw [if_neg (nI_pos (by omega)), if_pos ((sh1 _ (by omega)).mpr hpg), if_neg hne]
    have e89 : (if (1 : Int32) = 0 then Gu gu ga r t else kl g ^^^ (-1)) = f_X1_explainedBy ga (nI g) ^^^ (-1) := by rw [if_neg k1, hE g hg]
    obtain ⟨a1, z, a2, a3⟩ := ih (t + 1) n (by omega) (by omega)
    refine ⟨?_, z, ?_, a3⟩
    · rw [p_L_causes_L396]
      refine ⟨fun q => absurd q l, fun _ => ⟨fun _ => trivial, fun _ => ⟨(q_greedy h hr _).1, ?_⟩⟩⟩
      rw [hgr, cl (by omega)]
      refine ⟨⟨fun _ => trivial, fun _ => ⟨fun _ => ⟨in14 hg, fun _ => trivial, fun _ => trivial⟩, fun _ => trivial⟩⟩, fun y61 q61 => ?_⟩
      rw [e61] at q61
      subst q61
      refine ⟨b1, fun x y q => ?_⟩
      rw [b2] at q
      cases q
      refine ⟨⟨fun _ => trivial, fun _ => ⟨in14 hg, trivial⟩⟩, fun y89 q89 => ?_⟩
      rw [e89] at q89
      subst q89
      rw [nI_1, ← hG]
      exact a1
    · rw [f_L_causes_L396, if_neg l, if_neg k1, hgr, cl (by omega), e61]
      dsimp only
      rw [b2]
      dsimp only
      rw [e89, nI_1, ← hG]
      exact a2
/-- what the greedy diagnosis is after t nodes -/
theorem greedy_set {gn gu gb ga : AA} (h : GI gn gu gb ga) {r : Int32} (hr : M14 r) : ∀ t, (∀ s, s < t → Gu gu ga r s ≠ 0) → ∃ S : Int32, cn S = t ∧ Sub S (PP gu r) ∧
    (∀ k, k < 14 → bt r k = true → bt (Gu gu ga r t) k = true ∨ ∃ o, o < 14 ∧ bt S o = true ∧ bt (f_X1_explainedBy ga (nI o)) k = true) ∧ ∀ o, o < 14 → bt S o = true → ∀ k, k < 14 → bt (Gu gu ga r t) k = true → ¬ bt (f_X1_explainedBy ga (nI o)) k = true := by
  intro t
  induction t with
  | zero =>
    intro _
    exact ⟨0, by decide, fun k q => (by rw [b_0] at q; cases q), fun k _ q => Or.inl q, fun o _ q => by rw [b_0] at q; cases q⟩
  | succ t ih =>
    intro hnz
    obtain ⟨S, h1, h2, h3, h4⟩ := ih (fun s hs => hnz s (by omega))
    obtain ⟨-, g, hg, e1, hG, hpg, ⟨x, x14, x1, x2⟩, -⟩ := Gu_step h hr (hnz t (Nat.lt_succ_self _))
    have hgS : bt S g = false := by
      cases hc : bt S g
      · rfl
      · exact absurd x2 (h4 g hg hc x x14 x1)
    have hstep : ∀ k, k < 14 → (bt (Gu gu ga r (t + 1)) k = true ↔ bt (Gu gu ga r t) k = true ∧ ¬ bt (f_X1_explainedBy ga (nI g)) k = true) := fun k hk => by
      rw [hG, b_and, Bool.and_eq_true, not_b _ (by omega), Bool.not_eq_true', Bool.not_eq_true]
    refine ⟨S ||| f_X4_only (nI g), by rw [cn_add hg hgS, h1], fun k q => ?_, fun k hk q => ?_, fun o ho q k hk q2 => ?_⟩
    · rw [b_or, Bool.or_eq_true, only_bT hg] at q
      rcases q with q | q
      · exact h2 k q
      · rw [q]; exact hpg
    · rcases h3 k hk q with w | ⟨o, o1, o2, o3⟩
      · by_cases c : bt (f_X1_explainedBy ga (nI g)) k = true
        · exact Or.inr ⟨g, hg, by rw [b_or, (only_bT hg).mpr rfl, Bool.or_true], c⟩
        · exact Or.inl ((hstep k hk).mpr ⟨w, c⟩)
      · exact Or.inr ⟨o, o1, by rw [b_or, o2]; rfl, o3⟩
    · obtain ⟨q3, q4⟩ := (hstep k hk).mp q2
      rw [b_or, Bool.or_eq_true, only_bT hg] at q
      rcases q with q | q
      · exact h4 o ho q k hk q3
      · rw [q]; exact q4
theorem greedy_many {gn gu gb ga : AA} (h : GI gn gu gb ga) {r : Int32} (hr : M14 r) {K : Nat} (hz : Gu gu ga r K = 0) (hnz : ∀ s, s < K → Gu gu ga r s ≠ 0) : cn (BB gu gb ga r) ≤ K := by
  obtain ⟨S, h1, h2, h3, -⟩ := greedy_set h hr K hnz
  have hD : Dg gb r (PP gu r) S := ⟨h2, fun k hk q => by
    rcases h3 k hk q with w | ⟨o, o1, o2, o3⟩
    · rw [hz, b_0] at w; cases w
    · refine ⟨o, o1, o2, ?_⟩
      rcases (explainedBy_b o1).mp o3 with w | w
      · exact Or.inl w.symm
      · exact Or.inr ((h.ba hk o1).mp w)⟩
  have hN := (search_best h hr).2.2 S hD
  unfold Btr at hN
  show cn (f_X0_bestBySearch r (f_X0_plausibleOf gu r) gb ga) ≤ K
  omega
/-! ===== which node of the best diagnosis explains a raised one ===== -/
theorem due_S (r : Int32) (kl : AA) (B : Int32) {k : Nat} (hk : k < 14) : ∀ (j n : Nat) (du : Int32), j ≤ 14 → j < n → p_L_causes_L682 r kl B (nI k) n du (km j) ∧ ∃ du', f_L_causes_L682 r kl B (nI k) n du (km j) = (du', -1) ∧
    ((∃ c, c < j ∧ (bt B c = true ∧ bt (kl c) k = true ∧ bt r k = true)) → ∃ c, c < j ∧ du' = nI c ∧ (bt B c = true ∧ bt (kl c) k = true ∧ bt r k = true) ∧ ∀ i, i < c → ¬ (bt B i = true ∧ bt (kl i) k = true ∧ bt r k = true)) ∧
    ((∀ c, c < j → ¬ (bt B c = true ∧ bt (kl c) k = true ∧ bt r k = true)) → du' = du) := by
  intro j
  induction j with
  | zero =>
    intro n du _ hn
    obtain ⟨n, rfl⟩ : ∃ k, n = k + 1 := ⟨n - 1, by omega⟩
    have l : km 0 < 0 := by decide +kernel
    refine ⟨?_, du, ?_, fun ⟨c, hc, _⟩ => absurd hc (Nat.not_lt_zero _), fun _ => rfl⟩
    · rw [p_L_causes_L682]; exact ⟨fun _ => trivial, fun q => absurd l q⟩
    · rw [f_L_causes_L682, if_pos l]; rfl
  | succ j ih =>
    intro n du hj hn
    obtain ⟨n, rfl⟩ : ∃ k, n = k + 1 := ⟨n - 1, by omega⟩
    have hj14 : j < 14 := by omega
    have l : ¬ nI j < 0 := nI_pos (by omega)
    have ek : km (j + 1) = nI j := rfl
    rw [ek]
    obtain ⟨z, hz⟩ : ∃ z : Int32, z = (if (B >>> (nI j &&& 31)) &&& 1 = 1 then (if (kl (nI j).toNatClampNeg >>> (nI k &&& 31)) &&& 1 = 1 then (if (r >>> (nI k &&& 31)) &&& 1 = 1 then nI j else du) else du) else du) := ⟨_, rfl⟩
    have s1 := sh1 B (n := j) (by omega)
    have s2 := sh1 (kl j) (n := k) (by omega)
    have s3 := sh1 r (n := k) (by omega)
    have hzv : ((bt B j = true ∧ bt (kl j) k = true ∧ bt r k = true) → z = nI j) ∧ (¬ (bt B j = true ∧ bt (kl j) k = true ∧ bt r k = true) → z = du) := by
      rw [hz, cl (by omega)]
      by_cases c1 : (B >>> (nI j &&& 31)) &&& 1 = 1
      · rw [if_pos c1]
        by_cases c2 : (kl j >>> (nI k &&& 31)) &&& 1 = 1
        · rw [if_pos c2]
          by_cases c3 : (r >>> (nI k &&& 31)) &&& 1 = 1
          · rw [if_pos c3]
            exact ⟨fun _ => rfl, fun q => absurd ⟨s1.mp c1, s2.mp c2, s3.mp c3⟩ q⟩
          · rw [if_neg c3]
            exact ⟨fun q => absurd (s3.mpr q.2.2) c3, fun _ => rfl⟩
        · rw [if_neg c2]
          exact ⟨fun q => absurd (s2.mpr q.2.1) c2, fun _ => rfl⟩
      · rw [if_neg c1]
        exact ⟨fun q => absurd (s1.mpr q.1) c1, fun _ => rfl⟩
    obtain ⟨a1, du', a2, a3, a4⟩ := ih n z (by omega) (by omega)
    refine ⟨?_, du', ?_, ?_, ?_⟩
    · rw [p_L_causes_L682]
      refine ⟨fun q => absurd q l, fun _ => ⟨⟨fun _ => ⟨in14 hj14, fun _ => ⟨fun _ => trivial, fun _ => trivial⟩, fun _ => trivial⟩, fun _ => trivial⟩, fun y q => ?_⟩⟩
      rw [← hz] at q
      subst q
      rw [km_1]
      exact a1
    · rw [f_L_causes_L682, if_neg l, ← hz, km_1]; exact a2
    · rintro ⟨c, hc, hc2⟩
      by_cases w : ∃ c, c < j ∧ (bt B c = true ∧ bt (kl c) k = true ∧ bt r k = true)
      · obtain ⟨x, x1, x2⟩ := a3 w
        exact ⟨x, by omega, x2⟩
      · have hall : ∀ i, i < j → ¬ (bt B i = true ∧ bt (kl i) k = true ∧ bt r k = true) := fun i hi q => w ⟨i, hi, q⟩
        have e : c = j := by
          rcases Nat.lt_or_ge c j with q | q
          · exact absurd hc2 (hall c q)
          · omega
        subst e
        exact ⟨c, hc, by rw [a4 hall, hzv.1 hc2], hc2, hall⟩
    · intro hall
      rw [a4 (fun c hc => hall c (by omega)), hzv.2 (hall j (Nat.lt_succ_self _))]
theorem of_S {gn gu gb ga kl : AA} (h : GI gn gu gb ga) {r : Int32} (hr : M14 r) (hE : EE ga kl) : ∀ (c j n : Nat), j + c = 14 → c < n →
    p_L_causes_L663 r gu gb ga r kl (BB gu gb ga r) n 1 (nI j) ∧ f_L_causes_L663 r gu gb ga r kl (BB gu gb ga r) n 1 (nI j) = (1, nI 14) := by
  have k1 : ¬ (1 : Int32) = 0 := by decide
  intro c
  induction c with
  | zero =>
    intro j n hj hn
    obtain ⟨n, rfl⟩ : ∃ k, n = k + 1 := ⟨n - 1, by omega⟩
    have e : j = 14 := by omega
    subst e
    refine ⟨?_, ?_⟩
    · rw [p_L_causes_L663]; exact ⟨fun _ => trivial, fun h => absurd y14 h⟩
    · rw [f_L_causes_L663, if_pos y14]
  | succ c ih =>
    intro j n hj hn
    obtain ⟨n, rfl⟩ : ∃ k, n = k + 1 := ⟨n - 1, by omega⟩
    have hj14 : j < 14 := by omega
    obtain ⟨p1, e1⟩ := q_causeOf h hr hj14
    obtain ⟨b1, du, b2, b3, b4⟩ := due_S r kl (BB gu gb ga r) hj14 14 15 (-1) (Nat.le_refl _) (by decide)
    have ek : km 14 = (13 : Int32) := rfl
    rw [ek] at b1 b2
    have ed : f_L_causeOf r gu gb ga (nI j) = du := by
      rw [e1]
      by_cases c1 : bt r j = true
      · rw [if_pos c1]
        have hQ : ∀ i, i < 14 → (bt (BB gu gb ga r &&& f_X1_explainersOf gb (nI j)) i = true ↔ (bt (BB gu gb ga r) i = true ∧ bt (kl i) j = true ∧ bt r j = true)) := fun i hi => by
          rw [b_and, Bool.and_eq_true, expl_dual h hj14 hi, hE i hi]
          exact and_congr Iff.rfl ⟨fun q => ⟨q, c1⟩, fun q => q.1⟩
        rcases nap0 (BB gu gb ga r &&& f_X1_explainersOf gb (nI j)) with ⟨x, x1, x2, x3, x4⟩ | ⟨x1, x2⟩
        · obtain ⟨y, y1, y2, y3, y4⟩ := b3 ⟨x, x1, (hQ x x1).mp x2⟩
          have exy : x = y := by
            rcases Nat.lt_trichotomy x y with q | q | q
            · exact absurd ((hQ x x1).mp x2) (y4 x q)
            · exact q
            · have := x3 y q
              rw [(hQ y y1).mpr y3] at this
              cases this
          rw [x4, y2, exy]
        · rw [x2, b4 (fun i hi q => by
            have := x1 i hi
            rw [(hQ i hi).mpr q] at this
            cases this)]
      · rw [if_neg c1, b4 (fun i hi q => c1 q.2.2)]
    have e112 : (if f_L_causeOf r gu gb ga (nI j) = du then (1 : Int32) else (0 : Int32)) = 1 := if_pos ed
    obtain ⟨a1, a2⟩ := ih (j + 1) n (by omega) (by omega)
    refine ⟨?_, ?_⟩
    · rw [p_L_causes_L663]
      refine ⟨fun q => absurd q (n14 hj14), fun _ => ⟨fun _ => trivial, fun _ => ⟨b1, fun x y q => ?_⟩⟩⟩
      rw [b2] at q
      cases q
      refine ⟨p1, ⟨fun _ => trivial, fun _ => trivial⟩, fun y q => ?_⟩
      rw [e112] at q
      subst q
      rw [nI_1]
      exact a1
    · rw [f_L_causes_L663, if_neg (n14 hj14), if_neg k1, b2]
      dsimp only
      rw [e112, nI_1]
      exact a2
