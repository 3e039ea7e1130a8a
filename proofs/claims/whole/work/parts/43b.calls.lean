/-! ===== the class's answers and the reference's: nodes, graph, causes ===== -/
theorem goes_gen (a b : Int32) : f_X5_goes a b = if a = 0 then (0, 1) else if b = 0 then (0, 2) else (1, 0) := by
  unfold f_X5_goes
  dsimp only
  by_cases h : a = 0
  · rw [if_pos h, if_pos h]; rfl
  · rw [if_neg h, if_neg h]
    by_cases h2 : b = 0
    · rw [if_pos h2, if_pos h2]; rfl
    · rw [if_neg h2, if_neg h2]; rfl
theorem goes_r {a b r u : Int32} (h : f_X5_goes a b = (r, u)) (hr : ¬ r = 0) : (¬ a = 0 ∧ ¬ b = 0) ∧ u = 0 := by
  rw [goes_gen] at h
  by_cases h1 : a = 0
  · rw [if_pos h1] at h; cases h; exact absurd rfl hr
  · rw [if_neg h1] at h
    by_cases h2 : b = 0
    · rw [if_pos h2] at h; cases h; exact absurd rfl hr
    · rw [if_neg h2] at h; cases h; exact ⟨⟨h1, h2⟩, rfl⟩
theorem both_r {A B j : Int32} (h : (if A = 0 then (0 : Int32) else (if B = 0 then (0 : Int32) else (1 : Int32))) = j) (hj : ¬ j = 0) : ¬ A = 0 ∧ ¬ B = 0 := by
  constructor
  · intro q; rw [if_pos q] at h; exact hj h.symm
  · intro q
    by_cases r : A = 0
    · rw [if_pos r] at h; exact hj h.symm
    · rw [if_neg r, if_pos q] at h; exact hj h.symm
theorem eIA_ne : ¬ eIA = eIO := by unfold eIA eIO; decide
theorem eIS_ne : ¬ eIS = eIO := by unfold eIS eIO; decide
theorem node_c (a : Int32) : (∃ i, i < 14 ∧ a = nI i ∧ f_X4_checkNode a = .inr () ∧ f_X5_isNode a = 1) ∨ (f_X4_checkNode a = .inl eIO ∧ f_X5_isNode a = 0) := by
  unfold f_X4_checkNode f_X5_isNode
  dsimp only
  rcases pk_ix a (n := 14) (by decide) with q | q | ⟨i, hi, e⟩
  · exact Or.inr ⟨by rw [if_pos q], by rw [if_pos q]⟩
  · have q' : (14 : Int32) ≤ a := q
    have n0 : ¬ a < 0 := fun c => Int32.lt_irrefl (Int32.lt_of_lt_of_le c (Int32.le_trans (by decide) q'))
    have n1 : ¬ a < 14 := Int32.not_lt.mpr q'
    exact Or.inr ⟨by rw [if_neg n0, if_neg n1], by rw [if_neg n0, if_pos q']⟩
  · have n0 : ¬ nI i < 0 := nI_pos (by omega)
    have n1 : nI i < (14 : Int32) := nI_lt (b := 14) hi (by decide)
    refine Or.inl ⟨i, hi, e, ?_, ?_⟩
    · rw [e, if_neg n0, if_pos n1]
    · rw [e, if_neg n0, if_neg (n14 hi)]
theorem chk_in {a : Int32} (q : f_X4_checkNode a = .inr ()) : vp_in a 14 := by
  rcases node_c a with ⟨i, hi, e, -, -⟩ | ⟨c, -⟩
  · rw [e]; exact in14 hi
  · rw [c] at q; cases q
theorem isn_in {a : Int32} (q : ¬ f_X5_isNode a = 0) : vp_in a 14 := by
  rcases node_c a with ⟨i, hi, e, -, -⟩ | ⟨-, c⟩
  · rw [e]; exact in14 hi
  · exact absurd c q
theorem isn_ok {a : Int32} (q : ¬ f_X5_isNode a = 0) : ∃ i, i < 14 ∧ a = nI i := by
  rcases node_c a with ⟨i, hi, e, -, -⟩ | ⟨-, c⟩
  · exact ⟨i, hi, e⟩
  · exact absurd c q
theorem chk_ok {a : Int32} (q : f_X4_checkNode a = .inr ()) : ∃ i, i < 14 ∧ a = nI i := by
  rcases node_c a with ⟨i, hi, e, -, -⟩ | ⟨c, -⟩
  · exact ⟨i, hi, e⟩
  · rw [c] at q; cases q
theorem bel {gb : AA} {j : Nat} (hj : j < 14) : f_X1_below gb (nI j) = gb j := by unfold f_X1_below; rw [cl (by omega)]
theorem abv {gb : AA} {j : Nat} (hj : j < 14) : f_X1_above gb (nI j) = gb j := by unfold f_X1_above; rw [cl (by omega)]
theorem ndd {gb : AA} {j : Nat} (hj : j < 14) : f_X1_needed gb (nI j) = gb j := by unfold f_X1_needed; rw [cl (by omega)]
theorem has_eq (x : Int32) {n : Nat} (hn : n < 32) : (if f_X5_has x (nI n) = 0 then (0 : Int32) else 1) = f_X4_has x (nI n) := by
  rw [has4 x hn, has5 x hn]
  cases bt x n <;> rfl
theorem has_54 (x : Int32) {n : Nat} (hn : n < 32) : f_X5_has x (nI n) = f_X4_has x (nI n) := by rw [has4 x hn, has5 x hn]
theorem has_gb {gn gu gb ga : AA} (h : GI gn gu gb ga) {i j : Nat} (hi : i < 14) (hj : j < 14) : f_X4_has (gb j) (nI i) = 0 ↔ ¬ Rc (NR gn) j i := by
  have t : bt (gb j) i = true ↔ Rc (NR gn) j i := (h.2.2.2.2.2 j i hj hi).1
  rw [has4_0 (gb j) (by omega), ← t, Bool.not_eq_true]
theorem SG_made {gn gu gb ga mn mu : AA} (h : GI gn gu gb ga) (hm : ∀ k, k < 14 → mn k = gn k) : p_X5_closes mn mu ∧ SG gn gb mn (f_X5_closes mn mu) := by
  have hc : ∀ a b, a < 14 → b < 14 → (NR gn a b ↔ NR mn a b) := fun a b h1 _ => by show bt (gn a) b = true ↔ bt (mn a) b = true; rw [hm a h1]
  have hn : RM mn := fun k hk => by rw [hm k hk]; exact h.1 k hk
  obtain ⟨a1, a2⟩ := closes_spec (mu := mu) hn (Ac.cong hc h.2.2.1)
  refine ⟨a1, fun k hk => ⟨hm k hk, ?_⟩⟩
  refine M14.extT (a2 k hk).1 (h.2.2.2.2.1 k hk).1 fun t ht => ?_
  rw [(a2 k hk).2 t ht]
  exact (Rc.cong (fun a b c d => (hc a b c d).symm) hk ht).trans (h.2.2.2.2.2 k t hk ht).1.symm
/-- the outcome of a change of the graph -/
def AgG (o : String ⊕ (Int32 × AA × AA × AA × AA)) (m : Int32 × Int32 × AA × AA) (mn mu : AA) : Prop := (∃ E, o = .inl E ∧ m = (0, (if E = eIO then 1 else 2), mn, mu)) ∨ ∃ v gn' gu' gb' ga' mn' mu', o = .inr (v, gn', gu', gb', ga') ∧ m = (v, 0, mn', mu') ∧ GI gn' gu' gb' ga' ∧ SG gn' gb' mn' mu'
theorem ag_need {gn gu gb ga mn mu : AA} (h : GI gn gu gb ga) (hs : SG gn gb mn mu) (a b : Int32) : p_X4_need gn gu gb ga a b ∧ p_X5_need mn mu a b ∧ AgG (f_X4_need gn gu gb ga a b) (f_X5_need mn mu a b) mn mu := by
  have k1 : ¬ (1 : Int32) = 0 := by decide
  have link : ∀ i j, i < 14 → j < 14 → ¬ i = j → ¬ Rc (NR gn) j i → p_X1_link gn gu gb ga (nI i) (nI j) ∧ p_X5_closes (upd mn i (mn i ||| (1 <<< (nI j &&& 31)))) mu ∧ ∃ gn' gu' gb' ga', f_X1_link gn gu gb ga (nI i) (nI j) = ((if bt (gn i) j then 0 else 1), gn', gu', gb', ga') ∧ GI gn' gu' gb' ga' ∧ SG gn' gb' (upd mn i (mn i ||| (1 <<< (nI j &&& 31)))) (f_X5_closes (upd mn i (mn i ||| (1 <<< (nI j &&& 31)))) mu) := by
    intro i j hi hj hij hr
    obtain ⟨l1, gn', gu', gb', ga', l2, l3, l4⟩ := link_spec h hi hj hij hr
    have hm : ∀ k, k < 14 → upd mn i (mn i ||| (1 <<< (nI j &&& 31))) k = gn' k := fun k hk => by
      rw [l4 k hk, one_eq, upd_at, upd_at, (hs i hi).1, (hs k hk).1]
    obtain ⟨s1, s2⟩ := SG_made (mu := mu) l3 hm
    exact ⟨l1, s1, gn', gu', gb', ga', l2, l3, s2⟩
  refine ⟨fun q1 q2 => ⟨fun _ => trivial, fun q3 => ⟨⟨chk_in q2, trivial⟩, fun q4 => ⟨?_, fun _ _ _ _ _ _ => trivial⟩, fun _ => trivial⟩⟩, ⟨⟨fun _ => trivial, fun _ => ⟨fun _ => trivial, fun _ => trivial⟩⟩, fun j2 e2 => ⟨⟨fun _ => trivial, fun q3 => ⟨fun _ => trivial, fun _ => ⟨isn_in (both_r e2 q3).2, fun _ => trivial, fun _ => trivial⟩⟩⟩, fun j6 e6 r u hg => ⟨fun _ => trivial, fun hr => ?_⟩⟩⟩, ?_⟩
  · obtain ⟨i, hi, rfl⟩ := chk_ok q1
    obtain ⟨j, hj, rfl⟩ := chk_ok q2
    rw [bel hj, has_gb h hi hj] at q4
    exact (link i j hi hj (fun c => q3 (by rw [c])) q4).1
  · obtain ⟨⟨g1, g2⟩, -⟩ := goes_r hg hr
    obtain ⟨n1, n2⟩ := both_r e2 g1
    obtain ⟨i, hi, rfl⟩ := isn_ok n1
    obtain ⟨j, hj, rfl⟩ := isn_ok n2
    refine ⟨in14 hi, ⟨fun _ => trivial, fun _ => trivial⟩, fun j16 _ => ⟨in14 hi, in14 hi, ?_, fun _ _ => trivial⟩⟩
    rw [if_neg g1] at e6
    have hij : ¬ i = j := fun c => by rw [if_pos (by rw [c])] at e6; exact g2 e6.symm
    have hnij : ¬ nI i = nI j := fun c => hij ((nI_eq (by omega) (by omega)).mp c)
    rw [if_neg hnij, cl (by omega), (hs j hj).2] at e6
    have hr2 : ¬ Rc (NR gn) j i := by
      rw [← has_gb h hi hj]
      refine Classical.byContradiction fun c => ?_
      rw [has_54 _ (by omega), if_neg c] at e6
      exact g2 e6.symm
    rw [cl (by omega)]
    exact (link i j hi hj hij hr2).2.1
  · unfold f_X4_need f_X5_need
    dsimp only
    rcases node_c a with ⟨i, hi, rfl, c1, c2⟩ | ⟨c1, c2⟩
    · rcases node_c b with ⟨j, hj, rfl, d1, d2⟩ | ⟨d1, d2⟩
      · rw [c1, d1, c2, d2]
        dsimp only
        rw [if_neg k1, if_neg k1, if_neg k1]
        by_cases hij : i = j
        · subst hij
          rw [if_pos rfl, if_pos rfl]
          refine Or.inl ⟨eIA, rfl, ?_⟩
          rw [if_neg eIA_ne]
          rfl
        · have hnij : ¬ nI i = nI j := fun c => hij ((nI_eq (by omega) (by omega)).mp c)
          rw [if_neg hnij, if_neg hnij, cl (j := j) (by omega), cl (j := i) (by omega), (hs j hj).2, bel hj, has_54 (gb j) (by omega), has_54 (mn i) (by omega)]
          by_cases hr : f_X4_has (gb j) (nI i) = 0
          · rw [if_pos hr, if_pos hr]
            obtain ⟨-, -, gn', gu', gb', ga', l2, l3, l4⟩ := link i j hi hj hij ((has_gb h hi hj).mp hr)
            rw [l2]
            refine Or.inr ⟨_, gn', gu', gb', ga', _, _, rfl, ?_, l3, l4⟩
            have e : (if f_X4_has (mn i) (nI j) = 0 then (1 : Int32) else 0) = if bt (gn i) j then 0 else 1 := by
              rw [(hs i hi).1, has4 _ (by omega)]
              cases bt (gn i) j <;> rfl
            rw [e]
            rfl
          · rw [if_neg hr, if_neg hr]
            refine Or.inl ⟨eIA, rfl, ?_⟩
            rw [if_neg eIA_ne]
            rfl
      · rw [c1, d1, c2, d2]
        exact Or.inl ⟨eIO, rfl, rfl⟩
    · rw [c1, c2]
      exact Or.inl ⟨eIO, rfl, rfl⟩
theorem ag_release {gn gu gb ga mn mu : AA} (h : GI gn gu gb ga) (hs : SG gn gb mn mu) (a b : Int32) : p_X4_release gn gu gb ga a b ∧ p_X5_release mn mu a b ∧ AgG (f_X4_release gn gu gb ga a b) (f_X5_release mn mu a b) mn mu := by
  have k1 : ¬ (1 : Int32) = 0 := by decide
  have cut : ∀ i j, i < 14 → j < 14 → p_X1_unlink gn gu gb ga (nI i) (nI j) ∧ p_X5_closes (upd mn i (mn i &&& ((1 <<< (nI j &&& 31)) ^^^ (-1)))) mu ∧ ∃ gn' gu' gb' ga', f_X1_unlink gn gu gb ga (nI i) (nI j) = ((if bt (gn i) j then 1 else 0), gn', gu', gb', ga') ∧ GI gn' gu' gb' ga' ∧ SG gn' gb' (upd mn i (mn i &&& ((1 <<< (nI j &&& 31)) ^^^ (-1)))) (f_X5_closes (upd mn i (mn i &&& ((1 <<< (nI j &&& 31)) ^^^ (-1)))) mu) := by
    intro i j hi hj
    obtain ⟨l1, gn', gu', gb', ga', l2, l3, l4⟩ := unlink_spec h hi hj
    have hm : ∀ k, k < 14 → upd mn i (mn i &&& ((1 <<< (nI j &&& 31)) ^^^ (-1))) k = gn' k := fun k hk => by
      rw [l4 k hk, one_eq, upd_at, upd_at, (hs i hi).1, (hs k hk).1]
    obtain ⟨s1, s2⟩ := SG_made (mu := mu) l3 hm
    exact ⟨l1, s1, gn', gu', gb', ga', l2, l3, s2⟩
  refine ⟨fun q1 q2 => ⟨?_, fun _ _ _ _ _ _ => trivial⟩, ⟨⟨fun _ => trivial, fun _ => ⟨fun _ => trivial, fun _ => trivial⟩⟩, fun j2 e2 r u hg => ⟨fun _ => trivial, fun hr => ?_⟩⟩, ?_⟩
  · obtain ⟨i, hi, rfl⟩ := chk_ok q1
    obtain ⟨j, hj, rfl⟩ := chk_ok q2
    exact (cut i j hi hj).1
  · obtain ⟨⟨g1, g2⟩, -⟩ := goes_r hg hr
    obtain ⟨n1, n2⟩ := both_r e2 g1
    obtain ⟨i, hi, rfl⟩ := isn_ok n1
    obtain ⟨j, hj, rfl⟩ := isn_ok n2
    refine ⟨in14 hi, in14 hi, in14 hi, ?_, fun _ _ => trivial⟩
    rw [cl (by omega)]
    exact (cut i j hi hj).2.1
  · unfold f_X4_release f_X5_release
    dsimp only
    rcases node_c a with ⟨i, hi, rfl, c1, c2⟩ | ⟨c1, c2⟩
    · rcases node_c b with ⟨j, hj, rfl, d1, d2⟩ | ⟨d1, d2⟩
      · rw [c1, d1, c2, d2]
        dsimp only
        obtain ⟨-, -, gn', gu', gb', ga', l2, l3, l4⟩ := cut i j hi hj
        rw [l2, if_neg k1, if_neg k1, cl (j := i) (by omega)]
        refine Or.inr ⟨_, gn', gu', gb', ga', _, _, rfl, ?_, l3, l4⟩
        have e : f_X5_has (mn i) (nI j) = if bt (gn i) j then 1 else 0 := by rw [(hs i hi).1, has5 _ (by omega)]
        rw [← e]
        rfl
      · rw [c1, d1, c2, d2]
        exact Or.inl ⟨eIO, rfl, rfl⟩
    · rw [c1, c2]
      exact Or.inl ⟨eIO, rfl, rfl⟩
theorem ag_needs {gn gb mn mu : AA} (hs : SG gn gb mn mu) (a b : Int32) : p_X4_needs a b ∧ p_X5_needs mn a b ∧ Ag1 (f_X4_needs gn a b) (f_X5_needs mn a b) := by
  refine ⟨fun q1 _ => ⟨⟨chk_in q1, trivial⟩, trivial⟩, ⟨⟨fun _ => trivial, fun _ => ⟨fun _ => trivial, fun _ => trivial⟩⟩, fun j2 e2 r u hg => ⟨⟨fun _ => trivial, fun hr => ⟨isn_in (both_r e2 (goes_r hg hr).1.1).1, fun _ => trivial, fun _ => trivial⟩⟩, fun _ _ => trivial⟩⟩, ?_⟩
  unfold f_X4_needs f_X5_needs
  dsimp only
  rcases node_c a with ⟨i, hi, rfl, c1, c2⟩ | ⟨c1, c2⟩
  · rcases node_c b with ⟨j, hj, rfl, d1, d2⟩ | ⟨d1, d2⟩
    · rw [c1, d1, c2, d2, cl (j := i) (by omega), has_eq _ (by omega), (hs i hi).1]
      refine Or.inr ⟨_, rfl, ?_⟩
      rw [ndd hi]
      rfl
    · rw [c1, d1, c2, d2]
      exact Or.inl ⟨eIO, rfl, rfl⟩
  · rw [c1, c2]
    exact Or.inl ⟨eIO, rfl, rfl⟩
theorem ag_depends {gn gb mn mu : AA} (hs : SG gn gb mn mu) (a b : Int32) : p_X4_dependsOn a b ∧ p_X5_dependsOn mu a b ∧ Ag1 (f_X4_dependsOn gb a b) (f_X5_dependsOn mu a b) := by
  refine ⟨fun q1 _ => ⟨⟨chk_in q1, trivial⟩, trivial⟩, ⟨⟨fun _ => trivial, fun _ => ⟨fun _ => trivial, fun _ => trivial⟩⟩, fun j2 e2 r u hg => ⟨⟨fun _ => trivial, fun hr => ⟨isn_in (both_r e2 (goes_r hg hr).1.1).1, fun _ => trivial, fun _ => trivial⟩⟩, fun _ _ => trivial⟩⟩, ?_⟩
  unfold f_X4_dependsOn f_X5_dependsOn
  dsimp only
  rcases node_c a with ⟨i, hi, rfl, c1, c2⟩ | ⟨c1, c2⟩
  · rcases node_c b with ⟨j, hj, rfl, d1, d2⟩ | ⟨d1, d2⟩
    · rw [c1, d1, c2, d2, cl (j := i) (by omega), has_eq _ (by omega), (hs i hi).2]
      refine Or.inr ⟨_, rfl, ?_⟩
      rw [bel hi]
      rfl
    · rw [c1, d1, c2, d2]
      exact Or.inl ⟨eIO, rfl, rfl⟩
  · rw [c1, c2]
    exact Or.inl ⟨eIO, rfl, rfl⟩
theorem ag_height {gn gu gb ga mn mu : AA} (h : GI gn gu gb ga) (hs : SG gn gb mn mu) (a : Int32) : p_X4_height gn a ∧ p_X5_height mn a ∧ Ag1 (f_X4_height gn a) (f_X5_height mn a) := by
  refine ⟨fun q1 => ?_, fun r u hg => ⟨fun _ => trivial, fun hr => ?_⟩, ?_⟩
  · obtain ⟨i, hi, rfl⟩ := chk_ok q1
    exact ⟨(lwd_spec h.1 h.2.2.1 hi).1, trivial⟩
  · obtain ⟨i, hi, rfl⟩ := isn_ok (goes_r hg hr).1.1
    exact ⟨(height_same h.1 h.2.2.1 (fun k hk => (hs k hk).1) hi).1, fun _ _ _ => trivial⟩
  · unfold f_X4_height f_X5_height
    rcases node_c a with ⟨i, hi, rfl, c1, c2⟩ | ⟨c1, c2⟩
    · rw [c1, c2]
      obtain ⟨-, y, e⟩ := height_same h.1 h.2.2.1 (fun k hk => (hs k hk).1) hi
      rw [e]
      exact Or.inr ⟨_, rfl, rfl⟩
    · rw [c1, c2]
      exact Or.inl ⟨eIO, rfl, rfl⟩
theorem ag_plausible {gn gu gb ga mn mu : AA} {r : Int32} (h : GI gn gu gb ga) (hs : SG gn gb mn mu) (hr : M14 r) (a : Int32) : p_X4_isPlausible r gu a ∧ p_X5_isPlausible r mn a ∧ Ag1 (f_X4_isPlausible r gu a) (f_X5_isPlausible r mn a) := by
  refine ⟨fun _ => ⟨diag_p h.2.1 hr, fun _ _ _ => trivial⟩, fun x u hg => ⟨⟨fun _ => trivial, fun hx => ?_⟩, fun _ _ => trivial⟩, ?_⟩
  · obtain ⟨i, hi, rfl⟩ := isn_ok (goes_r hg hx).1.1
    exact ⟨(pl5 h hs hi).1, fun _ => trivial, fun _ => trivial⟩
  · unfold f_X4_isPlausible f_X5_isPlausible
    rcases node_c a with ⟨i, hi, rfl, c1, c2⟩ | ⟨c1, c2⟩
    · rw [c1, c2, diag_eq]
      refine Or.inr ⟨_, rfl, ?_⟩
      have e : (if f_X5_plausible r mn (nI i) = 0 then (0 : Int32) else 1) = f_X4_has (f_X0_plausibleOf gu r) (nI i) := by
        have h1 := (plOf h.2.1 hr).2.2 i hi
        rw [has4 _ (by omega)]
        by_cases c : PL gu r i
        · rw [if_neg (fun q => (pl5 h hs hi).2.mp q c), if_pos (h1.mpr c)]
        · rw [if_pos ((pl5 h hs hi).2.mpr c), if_neg (fun q => c (h1.mp q))]
      show ((if f_X5_plausible r mn (nI i) = 0 then (0 : Int32) else 1), (0 : Int32)) = (f_X4_has (f_X0_plausibleOf gu r) (nI i), 0)
      rw [e]
    · rw [c1, c2]
      exact Or.inl ⟨eIO, rfl, rfl⟩
theorem ag_greedy {gn gu gb ga mn mu : AA} {r : Int32} (h : GI gn gu gb ga) (hs : SG gn gb mn mu) (hr : M14 r) (a : Int32) : p_X4_greedyCause r gu ga a ∧ p_X5_greedyCause r mn mu a ∧ Ag1 (f_X4_greedyCause r gu ga a) (f_X5_greedyCause r mn mu a) := by
  obtain ⟨x1, x2⟩ := gat_X (a := a) h hs hr 14 0 15 rfl (by decide) (fun k hk => absurd hk (Nat.not_lt_zero _))
  have e0 : Gu gu ga r 0 = r := rfl
  rw [e0, nI_0] at x1 x2
  have hM : ∃ f, p_X5_greedyCause_L10 r mn mu a 16 r (-1) 0 ∧ (∃ x y, f_X5_greedyCause_L10 r mn mu a 16 r (-1) 0 = (x, f, y)) ∧ ((f_X0_greedyAt r (f_X0_plausibleOf gu r) ga a = -1 ∧ (a < 0 ∨ f < 0)) ∨ (¬ a < 0 ∧ ¬ f < 0 ∧ f_X0_greedyAt r (f_X0_plausibleOf gu r) ga a = f ∧ ¬ f = -1)) := by
    unfold f_X0_greedyAt
    rcases x2 with ⟨k, -, hk, e1, e2⟩ | ⟨e1, e2⟩
    · obtain ⟨p1, x, y, p2⟩ := gat_M h hs hr hk (k + 1) 0 16 (-1) (by omega) (by omega) (fun q => absurd q (Nat.lt_irrefl _)) (fun _ => rfl)
      rw [e0, nI_0, ← e1] at p1 p2
      refine ⟨_, p1, ⟨x, y, p2⟩, ?_⟩
      rw [e2]
      have na : ¬ a < 0 := by rw [e1]; exact nI_pos (by omega)
      by_cases z : Gu gu ga r k = 0
      · have z3 : Gn gu ga r k = -1 := by unfold Gn; rw [if_pos z]
        rw [z3]
        exact Or.inl ⟨rfl, Or.inr (by decide)⟩
      · obtain ⟨-, -, g, hg, g1, -, -⟩ := greedy_same h hs hr (Gu_sub gu ga r k) z
        have z3 : Gn gu ga r k = nI g := by unfold Gn; rw [if_neg z, g1]
        rw [z3]
        exact Or.inr ⟨na, nI_pos (by omega), rfl, nI_neg1 hg⟩
    · rcases pk_ix a (n := 14) (by decide) with q | q | ⟨i, hi, q⟩
      · have l : a < 0 := q
        refine ⟨-1, ?_, ⟨r, 0, ?_⟩, Or.inl ⟨e2, Or.inl q⟩⟩
        · rw [p_X5_greedyCause_L10]; exact ⟨fun _ => trivial, fun c => absurd l c⟩
        · rw [f_X5_greedyCause_L10, if_pos l]
      · have q' : (14 : Int32) ≤ a := q
        have l : ¬ a < 0 := fun c => Int32.lt_irrefl (Int32.lt_of_lt_of_le c (Int32.le_trans (by decide) q'))
        refine ⟨-1, ?_, ⟨r, 0, ?_⟩, Or.inl ⟨e2, Or.inr (by decide)⟩⟩
        · rw [p_X5_greedyCause_L10]; exact ⟨fun _ => trivial, fun _ => ⟨fun _ => trivial, fun c => absurd q' c⟩⟩
        · rw [f_X5_greedyCause_L10, if_neg l, if_pos q']
      · exact absurd q (e1 i hi)
  obtain ⟨f, m1, ⟨x, y, m2⟩, m3⟩ := hM
  refine ⟨⟨diag_p h.2.1 hr, fun u v huv => ?_⟩, ⟨m1, fun _ _ _ _ => ⟨⟨fun _ => trivial, fun _ => ⟨fun _ => trivial, fun _ => trivial⟩⟩, fun _ _ _ _ _ => ⟨⟨fun _ => trivial, fun _ => trivial⟩, fun _ _ => trivial⟩⟩⟩, ?_⟩
  · rw [diag_eq] at huv
    cases huv
    exact ⟨x1, fun _ => trivial, fun _ => trivial⟩
  · unfold f_X4_greedyCause f_X5_greedyCause
    rw [diag_eq, m2]
    dsimp only
    rw [goes1]
    rcases m3 with ⟨e1, e2⟩ | ⟨e1, e2, e3, e4⟩
    · rw [if_pos e1]
      have e : (if a < 0 then (0 : Int32) else (if f < 0 then (0 : Int32) else (1 : Int32))) = 0 := by
        rcases e2 with q | q
        · rw [if_pos q]
        · by_cases c : a < 0
          · rw [if_pos c]
          · rw [if_neg c, if_pos q]
      rw [e]
      exact Or.inl ⟨eIO, rfl, rfl⟩
    · rw [e3, if_neg e4, if_neg e1, if_neg e2]
      exact Or.inr ⟨_, rfl, rfl⟩
theorem co_L {gn gu gb ga mn mu : AA} {r : Int32} (h : GI gn gu gb ga) (hs : SG gn gb mn mu) {i : Nat} (hi : i < 14) : ∀ (k n : Nat) (v : Int32), k ≤ 14 → k < n →
    p_X5_causeOf_L25 r mn mu (nI i) n v (nI k + (-1)) ∧ ∃ w y, f_X5_causeOf_L25 r mn mu (nI i) n v (nI k + (-1)) = (w, y) ∧ ((∃ t, t < k ∧ (bt (f_X5_best r mn mu) t = true ∧ bt (f_X1_explainedBy ga (nI t)) i = true) ∧ (∀ s, s < t → ¬ (bt (f_X5_best r mn mu) s = true ∧ bt (f_X1_explainedBy ga (nI s)) i = true)) ∧ w = nI t) ∨ ((∀ t, t < k → ¬ (bt (f_X5_best r mn mu) t = true ∧ bt (f_X1_explainedBy ga (nI t)) i = true)) ∧ w = v)) := by
  intro k
  induction k with
  | zero =>
    intro n v _ hn
    obtain ⟨n, rfl⟩ : ∃ m, n = m + 1 := ⟨n - 1, by omega⟩
    have l : nI 0 + (-1) < 0 := by decide
    refine ⟨?_, v, nI 0 + (-1), ?_, Or.inr ⟨fun t ht => absurd ht (Nat.not_lt_zero _), rfl⟩⟩
    · rw [p_X5_causeOf_L25]; exact ⟨fun _ => trivial, fun c => absurd l c⟩
    · rw [f_X5_causeOf_L25, if_pos l]
  | succ k ih =>
    intro n v hk hn
    obtain ⟨n, rfl⟩ : ∃ m, n = m + 1 := ⟨n - 1, by omega⟩
    have hk14 : k < 14 := by omega
    have l : ¬ nI k < 0 := nI_pos (by omega)
    have e5 := (ex5 h hs hk14).2
    have h1 := has5_0 (f_X5_best r mn mu) (n := k) (by omega)
    have h2 := has5_0 (f_X1_explainedBy ga (nI k)) (n := i) (by omega)
    have pp : ∀ v', p_X5_causeOf_L25 r mn mu (nI i) n v' (nI k + (-1)) := fun v' => (ih n v' (by omega) (by omega)).1
    rw [pk_m1]
    have hP : p_X5_causeOf_L25 r mn mu (nI i) (n + 1) v (nI k) := by
      rw [p_X5_causeOf_L25]
      exact ⟨fun c => absurd c l, fun _ => ⟨⟨fun _ => trivial, fun _ => ⟨(ex5 h hs hk14).1, fun _ => trivial, fun _ => trivial⟩⟩, fun v' _ => pp v'⟩⟩
    refine ⟨hP, ?_⟩
    by_cases Q : bt (f_X5_best r mn mu) k = true ∧ bt (f_X1_explainedBy ga (nI k)) i = true
    · obtain ⟨-, w, y, a1, a2⟩ := ih n (nI k) (by omega) (by omega)
      refine ⟨w, y, ?_, ?_⟩
      · rw [f_X5_causeOf_L25, if_neg l]
        dsimp only
        rw [if_neg (fun c => by rw [h1.mp c] at Q; exact Bool.noConfusion Q.1), e5, if_neg (fun c => by rw [h2.mp c] at Q; exact Bool.noConfusion Q.2)]
        exact a1
      · rcases a2 with ⟨t, t1, t2, t3, t4⟩ | ⟨t1, t2⟩
        · exact Or.inl ⟨t, by omega, t2, t3, t4⟩
        · exact Or.inl ⟨k, by omega, Q, t1, t2⟩
    · obtain ⟨-, w, y, a1, a2⟩ := ih n v (by omega) (by omega)
      refine ⟨w, y, ?_, ?_⟩
      · rw [f_X5_causeOf_L25, if_neg l]
        dsimp only
        have e : (if f_X5_has (f_X5_best r mn mu) (nI k) = 0 then v else (if f_X5_has (f_X5_explains mu (nI k)) (nI i) = 0 then v else nI k)) = v := by
          rw [e5]
          by_cases c1 : f_X5_has (f_X5_best r mn mu) (nI k) = 0
          · rw [if_pos c1]
          · rw [if_neg c1]
            by_cases c2 : f_X5_has (f_X1_explainedBy ga (nI k)) (nI i) = 0
            · rw [if_pos c2]
            · exfalso
              refine Q ⟨?_, ?_⟩
              · cases hb : bt (f_X5_best r mn mu) k
                · exact absurd (h1.mpr hb) c1
                · rfl
              · cases hb : bt (f_X1_explainedBy ga (nI k)) i
                · exact absurd (h2.mpr hb) c2
                · rfl
        rw [e]
        exact a1
      · rcases a2 with ⟨t, t1, t2, t3, t4⟩ | ⟨t1, t2⟩
        · exact Or.inl ⟨t, by omega, t2, t3, t4⟩
        · refine Or.inr ⟨fun t ht => ?_, t2⟩
          rcases Nat.lt_or_ge t k with q | q
          · exact t1 t q
          · rw [show t = k by omega]; exact Q
theorem expl_dual {gn gu gb ga : AA} (h : GI gn gu gb ga) {i t : Nat} (hi : i < 14) (ht : t < 14) : bt (f_X1_explainersOf gb (nI i)) t = true ↔ bt (f_X1_explainedBy ga (nI t)) i = true := by
  unfold f_X1_explainersOf f_X1_explainedBy
  have a : bt (gb i) t = true ↔ Rc (NR gn) i t := (h.2.2.2.2.2 i t hi ht).1
  have b : bt (ga t) i = true ↔ Rc (NR gn) i t := (h.2.2.2.2.2 i t hi ht).2
  rw [cl (by omega), cl (by omega), b_or, b_or, Bool.or_eq_true, Bool.or_eq_true, only_bT hi, only_bT ht, a, b]
  exact or_congr ⟨fun q => q.symm, fun q => q.symm⟩ Iff.rfl
theorem ag_causeOf {gn gu gb ga mn mu : AA} {r : Int32} (h : GI gn gu gb ga) (hs : SG gn gb mn mu) (hr : M14 r) (a : Int32) : p_X4_causeOf r gu gb ga a ∧ p_X5_causeOf r mn mu a ∧ Ag1 (f_X4_causeOf r gu gb ga a) (f_X5_causeOf r mn mu a) := by
  have e13 : nI 14 + (-1) = (13 : Int32) := by decide
  refine ⟨fun q1 => ⟨fun _ => trivial, fun _ => ⟨diag_p h.2.1 hr, fun u v huv => ?_⟩⟩, fun x u hg => ⟨fun _ => trivial, fun hx => ?_⟩, ?_⟩
  · rw [diag_eq] at huv
    cases huv
    exact ⟨(search_best h hr).1, ⟨chk_in q1, trivial⟩, (nap_spec _ _).1, trivial⟩
  · obtain ⟨i, hi, rfl⟩ := isn_ok (goes_r hg hx).1.1
    obtain ⟨a1, -⟩ := co_L (r := r) h hs hi 14 15 (-1) (Nat.le_refl _) (by decide)
    rw [e13] at a1
    exact ⟨(best5 h hs hr).1, a1, fun _ _ _ => ⟨⟨fun _ => trivial, fun _ => trivial⟩, fun _ _ => trivial⟩⟩
  · unfold f_X4_causeOf f_X5_causeOf
    rcases node_c a with ⟨i, hi, rfl, c1, c2⟩ | ⟨c1, c2⟩
    · obtain ⟨-, w, y, a1, a2⟩ := co_L (r := r) h hs hi 14 15 (-1) (Nat.le_refl _) (by decide)
      rw [e13] at a1
      rw [c1, c2, diag_eq, a1, goes1]
      dsimp only
      rw [(best_all h hs hr).1]
      have ew : f_X4_nodeAtPlace (f_X5_best r mn mu &&& f_X1_explainersOf gb (nI i)) 0 = w := by
        have hb : ∀ t, t < 14 → (bt (f_X5_best r mn mu &&& f_X1_explainersOf gb (nI i)) t = true ↔ (bt (f_X5_best r mn mu) t = true ∧ bt (f_X1_explainedBy ga (nI t)) i = true)) := fun t ht => by
          rw [b_and, Bool.and_eq_true, expl_dual h hi ht]
        rcases nap0 (f_X5_best r mn mu &&& f_X1_explainersOf gb (nI i)) with ⟨k, k1, k2, k3, k4⟩ | ⟨k1, k2⟩
        · rw [k4]
          rcases a2 with ⟨t, t1, t2, t3, t4⟩ | ⟨t1, t2⟩
          · rw [t4]
            have : k = t := by
              rcases Nat.lt_trichotomy k t with q | q | q
              · exact absurd ((hb k k1).mp k2) (t3 k q)
              · exact q
              · have z := k3 t q
                rw [(hb t t1).mpr t2] at z
                exact Bool.noConfusion z
            rw [this]
          · exact absurd ((hb k k1).mp k2) (t1 k k1)
        · rw [k2]
          rcases a2 with ⟨t, t1, t2, t3, t4⟩ | ⟨t1, t2⟩
          · have z := k1 t t1
            rw [(hb t t1).mpr t2] at z
            exact Bool.noConfusion z
          · exact t2.symm
      rw [ew, has_54 r (by omega)]
      by_cases c : f_X4_has r (nI i) = 0
      · rw [if_pos c, if_pos c]; exact Or.inr ⟨_, rfl, rfl⟩
      · rw [if_neg c, if_neg c]; exact Or.inr ⟨_, rfl, rfl⟩
    · rw [c1, c2]
      exact Or.inl ⟨eIO, rfl, rfl⟩
