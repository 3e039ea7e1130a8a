/-! ===== the law's own lists: what each node explains, who is raised, who is plausible ===== -/
theorem expl_S (gb : AA) {k : Nat} (hk : k < 14) : ∀ (c j n : Nat) (kl : AA), j + c = 14 → c < n →
    p_L_causes_L58 gb (nI k) n (nI j) kl ∧ ∃ kl', f_L_causes_L58 gb (nI k) n (nI j) kl = (nI 14, kl') ∧ (∀ i, ¬ i = k → kl' i = kl i) ∧ ∀ t, (bt (kl' k) t = true ↔ bt (kl k) t = true ∨ (j ≤ t ∧ t < 14 ∧ bt (gb t) k = true)) := by
  intro c
  induction c with
  | zero =>
    intro j n kl hj hn
    obtain ⟨n, rfl⟩ : ∃ k, n = k + 1 := ⟨n - 1, by omega⟩
    have e : j = 14 := by omega
    subst e
    refine ⟨?_, kl, ?_, fun _ _ => rfl, fun t => ⟨Or.inl, ?_⟩⟩
    · rw [p_L_causes_L58]; exact ⟨fun _ => trivial, fun h => absurd y14 h⟩
    · rw [f_L_causes_L58, if_pos y14]
    · rintro (q | ⟨q1, q2, _⟩)
      · exact q
      · omega
  | succ c ih =>
    intro j n kl hj hn
    obtain ⟨n, rfl⟩ : ∃ k, n = k + 1 := ⟨n - 1, by omega⟩
    have hj14 : j < 14 := by omega
    obtain ⟨pd, ed⟩ := q_depends gb hj14 hk
    obtain ⟨z, hz⟩ : ∃ z : Int32, z = (if f_L_depends gb (nI j) (nI k) = 1 then 1 <<< (nI j &&& 31) else (0 : Int32)) := ⟨_, rfl⟩
    have hzb : ∀ t, bt z t = true ↔ t = j ∧ bt (gb j) k = true := fun t => by
      rw [hz, ed]
      cases hb : bt (gb j) k
      · rw [if_neg (fun c => by cases (b01 false).mp c), b_0]
        exact ⟨fun q => (by cases q), fun q => by cases q.2⟩
      · rw [if_pos ((b01 true).mpr rfl), one_eq, only_bT hj14]
        exact ⟨fun q => ⟨q, rfl⟩, fun q => q.1⟩
    obtain ⟨a1, kl', a2, a3, a4⟩ := ih (j + 1) n (upd kl k (kl k ||| z)) (by omega) (by omega)
    refine ⟨?_, kl', ?_, fun i hi => ?_, fun t => ?_⟩
    · rw [p_L_causes_L58]
      refine ⟨fun q => absurd q (n14 hj14), fun _ => ⟨in14 hk, pd, ⟨fun _ => trivial, fun _ => trivial⟩, fun y q => ⟨in14 hk, ?_⟩⟩⟩
      rw [← hz] at q
      subst q
      rw [nI_1, cl (by omega)]
      exact a1
    · rw [f_L_causes_L58, if_neg (n14 hj14), ← hz, nI_1, cl (by omega)]
      exact a2
    · rw [a3 i hi, upd_at, if_neg hi]
    · rw [a4 t, upd_at, if_pos rfl, b_or, Bool.or_eq_true, hzb t]
      constructor
      · rintro ((q | ⟨q1, q2⟩) | ⟨q1, q2, q3⟩)
        · exact Or.inl q
        · rw [q1]; exact Or.inr ⟨Nat.le_refl _, hj14, q2⟩
        · exact Or.inr ⟨by omega, q2, q3⟩
      · rintro (q | ⟨q1, q2, q3⟩)
        · exact Or.inl (Or.inl q)
        · rcases Nat.lt_or_ge j t with w | w
          · exact Or.inr ⟨w, q2, q3⟩
          · have e : t = j := by omega
            rw [e] at q3
            exact Or.inl (Or.inr ⟨e, q3⟩)
theorem expl_one {gn gu gb ga : AA} (h : GI gn gu gb ga) {k : Nat} (hk : k < 14) (kl : AA) : p_L_causes_L58 gb (nI k) 15 0 (upd kl k (1 <<< (nI k &&& 31))) ∧ ∃ kl', f_L_causes_L58 gb (nI k) 15 0 (upd kl k (1 <<< (nI k &&& 31))) = (nI 14, kl') ∧ (∀ i, ¬ i = k → kl' i = kl i) ∧ kl' k = f_X1_explainedBy ga (nI k) := by
  obtain ⟨a1, kl', a2, a3, a4⟩ := expl_S gb hk 14 0 15 (upd kl k (1 <<< (nI k &&& 31))) rfl (by decide)
  rw [nI_0] at a1 a2
  refine ⟨a1, kl', a2, fun i hi => by rw [a3 i hi, upd_at, if_neg hi], ?_⟩
  have hb : ∀ t, bt (kl' k) t = true ↔ t = k ∨ (t < 14 ∧ bt (gb t) k = true) := fun t => by
    rw [a4 t, upd_at, if_pos rfl, one_eq, only_bT hk]
    exact or_congr Iff.rfl ⟨fun q => q.2, fun q => ⟨Nat.zero_le _, q⟩⟩
  have hM : M14 (kl' k) := fun i hi => by
    cases hc : bt (kl' k) i
    · rfl
    · rcases (hb i).mp hc with q | q
      · omega
      · omega
  refine M14.extT hM (explainedBy_M h hk) fun t ht => ?_
  rw [hb t, explainedBy_b hk]
  exact or_congr Iff.rfl ⟨fun q => (h.ba ht hk).mpr q.2, fun q => ⟨ht, (h.ba ht hk).mp q⟩⟩
/-- a node has a ticket just if it is raised -/
def TR (r : Int32) (tn : AA) : Prop := ∀ k, k < 14 → (bt r k = true ↔ ¬ tn k ≤ 0)
theorem list_S {gn gu gb ga : AA} (h : GI gn gu gb ga) {r : Int32} {tn : AA} (hT : TR r tn) : ∀ (c j n : Nat) (v : Int32) (kl : AA), j + c = 14 → c < n → (∀ t, bt v t = true ↔ t < j ∧ bt r t = true) → (∀ k, k < j → kl k = f_X1_explainedBy ga (nI k)) →
    p_L_causes_L15 gb tn n v (nI j) kl ∧ ∃ v' kl', f_L_causes_L15 gb tn n v (nI j) kl = (v', nI 14, kl') ∧ (∀ t, bt v' t = true ↔ t < 14 ∧ bt r t = true) ∧ EE ga kl' := by
  intro c
  induction c with
  | zero =>
    intro j n v kl hj hn hv hk
    obtain ⟨n, rfl⟩ : ∃ k, n = k + 1 := ⟨n - 1, by omega⟩
    have e : j = 14 := by omega
    subst e
    refine ⟨?_, v, kl, ?_, hv, hk⟩
    · rw [p_L_causes_L15]; exact ⟨fun _ => trivial, fun h => absurd y14 h⟩
    · rw [f_L_causes_L15, if_pos y14]
  | succ c ih =>
    intro j n v kl hj hn hv hk
    obtain ⟨n, rfl⟩ : ∃ k, n = k + 1 := ⟨n - 1, by omega⟩
    have hj14 : j < 14 := by omega
    obtain ⟨pt, et⟩ := q_ticket tn hj14
    obtain ⟨b1, kl2, b2, b3, b4⟩ := expl_one h hj14 kl
    obtain ⟨z, hz⟩ : ∃ z : Int32, z = (if f_L_ticket tn (nI j) ≤ 0 then (0 : Int32) else 1 <<< (nI j &&& 31)) := ⟨_, rfl⟩
    have hzb : ∀ t, bt z t = true ↔ t = j ∧ bt r j = true := fun t => by
      rw [hz, et, hT j hj14]
      by_cases c1 : tn j ≤ 0
      · rw [if_pos c1, b_0]
        exact ⟨fun q => (by cases q), fun q => absurd c1 q.2⟩
      · rw [if_neg c1, one_eq, only_bT hj14]
        exact ⟨fun q => ⟨q, c1⟩, fun q => q.1⟩
    obtain ⟨a1, v', kl', a2, a3, a4⟩ := ih (j + 1) n (v ||| z) kl2 (by omega) (by omega) (fun t => by
      rw [b_or, Bool.or_eq_true, hv t, hzb t]
      constructor
      · rintro (⟨q1, q2⟩ | ⟨q1, q2⟩)
        · exact ⟨by omega, q2⟩
        · rw [q1]; exact ⟨Nat.lt_succ_self _, q2⟩
      · rintro ⟨q1, q2⟩
        rcases Nat.lt_or_ge t j with w | w
        · exact Or.inl ⟨w, q2⟩
        · have e : t = j := by omega
          rw [e] at q2
          exact Or.inr ⟨e, q2⟩) (fun k hk2 => by
      by_cases e : k = j
      · rw [e]; exact b4
      · rw [b3 k e]; exact hk k (by omega))
    refine ⟨?_, v', kl', ?_, a3, a4⟩
    · rw [p_L_causes_L15]
      refine ⟨fun q => absurd q (n14 hj14), fun _ => ⟨pt, ⟨fun _ => trivial, fun _ => trivial⟩, fun y q => ⟨in14 hj14, ?_⟩⟩⟩
      rw [← hz] at q
      subst q
      rw [cl (by omega)]
      refine ⟨b1, fun x y q => ?_⟩
      rw [b2] at q
      cases q
      rw [nI_1]
      exact a1
    · rw [f_L_causes_L15, if_neg (n14 hj14), ← hz, cl (by omega), b2, nI_1]
      exact a2
theorem q_list {gn gu gb ga : AA} (h : GI gn gu gb ga) {r : Int32} (hr : M14 r) {tn : AA} (hT : TR r tn) : p_L_causes_L15 gb tn 15 0 0 (fun _ => 0) ∧ ∃ kl, f_L_causes_L15 gb tn 15 0 0 (fun _ => 0) = (r, nI 14, kl) ∧ EE ga kl := by
  obtain ⟨a1, v, kl, a2, a3, a4⟩ := list_S h hT 14 0 15 0 (fun _ => 0) rfl (by decide) (fun t => by
    rw [b_0]
    exact ⟨fun q => (by cases q), fun q => absurd q.1 (Nat.not_lt_zero _)⟩) (fun k hk => absurd hk (Nat.not_lt_zero _))
  rw [nI_0] at a1 a2
  have e : v = r := M14.extT (fun i hi => by
    cases hb : bt v i
    · rfl
    · have := (a3 i).mp hb; omega) hr fun t ht => by
    rw [a3 t]
    exact ⟨fun q => q.2, fun q => ⟨ht, q⟩⟩
  rw [e] at a2
  exact ⟨a1, kl, a2, a4⟩
theorem above_S (gn : AA) {k : Nat} (hk : k < 14) : ∀ (c j n : Nat) (v : Int32), j + c = 14 → c < n →
    p_L_causes_L125 gn (nI k) n v (nI j) ∧ ∃ w, f_L_causes_L125 gn (nI k) n v (nI j) = (w, nI 14) ∧ ∀ t, (bt w t = true ↔ bt v t = true ∨ (j ≤ t ∧ t < 14 ∧ bt (gn t) k = true)) := by
  intro c
  induction c with
  | zero =>
    intro j n v hj hn
    obtain ⟨n, rfl⟩ : ∃ k, n = k + 1 := ⟨n - 1, by omega⟩
    have e : j = 14 := by omega
    subst e
    refine ⟨?_, v, ?_, fun t => ⟨Or.inl, ?_⟩⟩
    · rw [p_L_causes_L125]; exact ⟨fun _ => trivial, fun h => absurd y14 h⟩
    · rw [f_L_causes_L125, if_pos y14]
    · rintro (q | ⟨q1, q2, _⟩)
      · exact q
      · omega
  | succ c ih =>
    intro j n v hj hn
    obtain ⟨n, rfl⟩ : ∃ k, n = k + 1 := ⟨n - 1, by omega⟩
    have hj14 : j < 14 := by omega
    obtain ⟨pd, ed⟩ := q_needs gn hj14 hk
    obtain ⟨z, hz⟩ : ∃ z : Int32, z = (if f_L_needs gn (nI j) (nI k) = 1 then 1 <<< (nI j &&& 31) else (0 : Int32)) := ⟨_, rfl⟩
    have hzb : ∀ t, bt z t = true ↔ t = j ∧ bt (gn j) k = true := fun t => by
      rw [hz, ed]
      cases hb : bt (gn j) k
      · rw [if_neg (fun c => by cases (b01 false).mp c), b_0]
        exact ⟨fun q => (by cases q), fun q => by cases q.2⟩
      · rw [if_pos ((b01 true).mpr rfl), one_eq, only_bT hj14]
        exact ⟨fun q => ⟨q, rfl⟩, fun q => q.1⟩
    obtain ⟨a1, w, a2, a3⟩ := ih (j + 1) n (v ||| z) (by omega) (by omega)
    refine ⟨?_, w, ?_, fun t => ?_⟩
    · rw [p_L_causes_L125]
      refine ⟨fun q => absurd q (n14 hj14), fun _ => ⟨pd, ⟨fun _ => trivial, fun _ => trivial⟩, fun y q => ?_⟩⟩
      rw [← hz] at q
      subst q
      rw [nI_1]
      exact a1
    · rw [f_L_causes_L125, if_neg (n14 hj14), ← hz, nI_1]
      exact a2
    · rw [a3 t, b_or, Bool.or_eq_true, hzb t]
      constructor
      · rintro ((q | ⟨q1, q2⟩) | ⟨q1, q2, q3⟩)
        · exact Or.inl q
        · rw [q1]; exact Or.inr ⟨Nat.le_refl _, hj14, q2⟩
        · exact Or.inr ⟨by omega, q2, q3⟩
      · rintro (q | ⟨q1, q2, q3⟩)
        · exact Or.inl (Or.inl q)
        · rcases Nat.lt_or_ge j t with w | w
          · exact Or.inr ⟨w, q2, q3⟩
          · have e : t = j := by omega
            rw [e] at q3
            exact Or.inl (Or.inr ⟨e, q3⟩)
theorem q_above {gn gu gb ga : AA} (h : GI gn gu gb ga) {k : Nat} (hk : k < 14) : p_L_causes_L125 gn (nI k) 15 0 0 ∧ f_L_causes_L125 gn (nI k) 15 0 0 = (gu k, nI 14) := by
  obtain ⟨a1, w, a2, a3⟩ := above_S gn hk 14 0 15 0 rfl (by decide)
  rw [nI_0] at a1 a2
  have e : w = gu k := M14.extT (fun i hi => by
    cases hb : bt w i
    · rfl
    · rcases (a3 i).mp hb with q | q
      · rw [b_0] at q; cases q
      · omega) (h.2.1 k hk) fun t ht => by
    rw [a3 t, b_0]
    constructor
    · rintro (q | ⟨-, -, q⟩)
      · cases q
      · exact (h.2.2.2.1 t k ht hk).mpr q
    · intro q
      exact Or.inr ⟨Nat.zero_le _, ht, (h.2.2.2.1 t k ht hk).mp q⟩
  rw [e] at a2
  exact ⟨a1, a2⟩
theorem can_S {gn gu gb ga : AA} (h : GI gn gu gb ga) {r : Int32} (hr : M14 r) : ∀ (c j n : Nat) (v : Int32), j + c = 14 → c < n → (∀ t, bt v t = true ↔ t < j ∧ bt (PP gu r) t = true) →
    p_L_causes_L107 r gn gu r n v 1 (nI j) ∧ ∃ v', f_L_causes_L107 r gn gu r n v 1 (nI j) = (v', 1, nI 14) ∧ ∀ t, bt v' t = true ↔ t < 14 ∧ bt (PP gu r) t = true := by
  have k1 : ¬ (1 : Int32) = 0 := by decide
  intro c
  induction c with
  | zero =>
    intro j n v hj hn hv
    obtain ⟨n, rfl⟩ : ∃ k, n = k + 1 := ⟨n - 1, by omega⟩
    have e : j = 14 := by omega
    subst e
    refine ⟨?_, v, ?_, hv⟩
    · rw [p_L_causes_L107]; exact ⟨fun _ => trivial, fun h => absurd y14 h⟩
    · rw [f_L_causes_L107, if_pos y14]
  | succ c ih =>
    intro j n v hj hn hv
    obtain ⟨n, rfl⟩ : ∃ k, n = k + 1 := ⟨n - 1, by omega⟩
    have hj14 : j < 14 := by omega
    obtain ⟨pa, ea⟩ := q_above h hj14
    obtain ⟨pp, ep⟩ := q_plaus h.2.1 hr hj14
    have hPL := (plOf h.2.1 hr).2.2 j hj14
    have hs := sh1 r (n := j) (by omega)
    have hgM := h.2.1 j hj14
    obtain ⟨z23, h23⟩ : ∃ z : Int32, z = (if (r >>> (nI j &&& 31)) &&& 1 = 1 then (1 : Int32) else (if gu j ≤ 0 then (0 : Int32) else (if gu j &&& (r ^^^ (-1)) = 0 then (1 : Int32) else (0 : Int32)))) := ⟨_, rfl⟩
    have h232 : (z23 = 0 ∨ z23 = 1) ∧ (z23 = 0 ↔ ¬ bt (PP gu r) j = true) := by
      have e : bt (PP gu r) j = true ↔ PL gu r j := hPL
      rw [e, h23]
      unfold PL
      by_cases c1 : (r >>> (nI j &&& 31)) &&& 1 = 1
      · rw [if_pos c1]
        exact ⟨Or.inr rfl, fun q => absurd q (by decide), fun q => absurd (Or.inl (hs.mp c1)) q⟩
      · rw [if_neg c1]
        by_cases c2 : gu j ≤ 0
        · rw [if_pos c2]
          exact ⟨Or.inl rfl, fun _ q => q.elim (fun w => c1 (hs.mpr w)) (fun w => w.1 (hgM.le0.mp c2)), fun _ => rfl⟩
        · rw [if_neg c2]
          by_cases c3 : gu j &&& (r ^^^ (-1)) = 0
          · rw [if_pos c3]
            exact ⟨Or.inr rfl, fun q => absurd q (by decide), fun q => absurd (Or.inr ⟨fun w => c2 (hgM.le0.mpr w), c3⟩) q⟩
          · rw [if_neg c3]
            exact ⟨Or.inl rfl, fun _ q => q.elim (fun w => c1 (hs.mpr w)) (fun w => c3 w.2), fun _ => rfl⟩
    obtain ⟨h01, h00⟩ := h232
    obtain ⟨z27, h27⟩ : ∃ z : Int32, z = (if z23 = 0 then (0 : Int32) else 1 <<< (nI j &&& 31)) := ⟨_, rfl⟩
    have hzb : ∀ t, bt z27 t = true ↔ t = j ∧ bt (PP gu r) j = true := fun t => by
      rw [h27]
      by_cases c1 : z23 = 0
      · rw [if_pos c1, b_0]
        exact ⟨fun q => (by cases q), fun q => absurd q.2 (h00.mp c1)⟩
      · rw [if_neg c1, one_eq, only_bT hj14]
        exact ⟨fun q => ⟨q, Classical.byContradiction fun w => c1 (h00.mpr w)⟩, fun q => q.1⟩
    obtain ⟨z30, h30⟩ : ∃ z : Int32, z = (if f_L_plausible r gu (nI j) = 1 then (1 : Int32) else (0 : Int32)) := ⟨_, rfl⟩
    have e30 : z30 = z23 := by
      have h302 : (z30 = 0 ∨ z30 = 1) ∧ (z30 = 0 ↔ ¬ bt (PP gu r) j = true) := by
        rw [h30, ep]
        cases bt (PP gu r) j
        · rw [if_neg (fun c => by cases (b01 false).mp c)]
          exact ⟨Or.inl rfl, fun _ q => (by cases q), fun _ => rfl⟩
        · rw [if_pos ((b01 true).mpr rfl)]
          exact ⟨Or.inr rfl, fun q => absurd q (by decide), fun q => absurd rfl q⟩
      exact same01 h302.1 h01 (h302.2.trans h00.symm)
    have e32 : (if z30 = z23 then (1 : Int32) else (0 : Int32)) = 1 := if_pos e30
    obtain ⟨a1, v', a2, a3⟩ := ih (j + 1) n (v ||| z27) (by omega) (by omega) (fun t => by
      rw [b_or, Bool.or_eq_true, hv t, hzb t]
      constructor
      · rintro (⟨q1, q2⟩ | ⟨q1, q2⟩)
        · exact ⟨by omega, q2⟩
        · rw [q1]; exact ⟨Nat.lt_succ_self _, q2⟩
      · rintro ⟨q1, q2⟩
        rcases Nat.lt_or_ge t j with w | w
        · exact Or.inl ⟨w, q2⟩
        · have e : t = j := by omega
          rw [e] at q2
          exact Or.inr ⟨e, q2⟩)
    refine ⟨?_, v', ?_, a3⟩
    · rw [p_L_causes_L107]
      refine ⟨fun q => absurd q (n14 hj14), fun _ => ⟨fun _ => trivial, fun _ => ⟨pa, fun x y q => ?_⟩⟩⟩
      rw [ea] at q
      cases q
      refine ⟨⟨fun _ => trivial, fun _ => ⟨fun _ => trivial, fun _ => ⟨fun _ => trivial, fun _ => trivial⟩⟩⟩, fun y23 q23 => ?_⟩
      rw [← h23] at q23
      subst q23
      refine ⟨⟨fun _ => trivial, fun _ => trivial⟩, fun y27 q27 => ⟨pp, ⟨fun _ => trivial, fun _ => trivial⟩, fun y30 q30 => ⟨⟨fun _ => trivial, fun _ => trivial⟩, fun y32 q32 => ?_⟩⟩⟩
      rw [← h30] at q30
      subst q30
      rw [e32] at q32
      subst q32
      rw [← h27] at q27
      subst q27
      rw [nI_1]
      exact a1
    · rw [f_L_causes_L107, if_neg (n14 hj14), if_neg k1, ea]
      dsimp only
      rw [← h23, ← h30, e32, ← h27, nI_1]
      exact a2
theorem q_can {gn gu gb ga : AA} (h : GI gn gu gb ga) {r : Int32} (hr : M14 r) : p_L_causes_L107 r gn gu r 15 0 1 0 ∧ f_L_causes_L107 r gn gu r 15 0 1 0 = (PP gu r, 1, nI 14) := by
  obtain ⟨a1, v, a2, a3⟩ := can_S h hr 14 0 15 0 rfl (by decide) (fun t => by
    rw [b_0]
    exact ⟨fun q => (by cases q), fun q => absurd q.1 (Nat.not_lt_zero _)⟩)
  rw [nI_0] at a1 a2
  have e : v = PP gu r := M14.extT (fun i hi => by
    cases hb : bt v i
    · rfl
    · have := (a3 i).mp hb; omega) (plOf h.2.1 hr).2.1 fun t ht => by
    rw [a3 t]
    exact ⟨fun q => q.2, fun q => ⟨ht, q⟩⟩
  rw [e] at a2
  exact ⟨a1, a2⟩
