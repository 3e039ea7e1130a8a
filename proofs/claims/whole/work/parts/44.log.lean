/-! ===== the log, the states, the time: the class's answers and the reference's ===== -/
/-- both refuse, for the same kind of reason, or both answer the same -/
def Ag2 (o : String ⊕ Int32) (m : Int32 × Int32) : Prop := (∃ E, o = .inl E ∧ m.2 = if E = eIO then 1 else 2) ∨ ∃ v, o = .inr v ∧ m = (v, 0)
theorem in300 {j : Nat} (h : j < 300) : vp_in (nI j) 300 := vp_in_nI h (by decide)
theorem ra_L (lk ln lt : AA) (a mw w : Int32) {c : Nat} (hc : c ≤ 300) : ∀ (r j n : Nat) (v : Int32), j + r = c → r < n →
    p_X2_raisesAfter_L5 (nI c) lk ln lt a (mw - w) n v (nI j) ∧ p_X5_raisesOf_L5 (nI c) mw lk ln lt a w n v (nI j) ∧ ∃ x, f_X2_raisesAfter_L5 (nI c) lk ln lt a (mw - w) n v (nI j) = (x, nI c) ∧ f_X5_raisesOf_L5 (nI c) mw lk ln lt a w n v (nI j) = (x, nI c) := by
  intro r
  induction r with
  | zero =>
    intro j n v hj hn
    obtain ⟨n, rfl⟩ : ∃ m, n = m + 1 := ⟨n - 1, by omega⟩
    have e : j = c := by omega
    subst e
    have l : nI j ≤ nI j := Int32.le_refl _
    refine ⟨?_, ?_, v, ?_, ?_⟩
    · rw [p_X2_raisesAfter_L5]; exact ⟨fun _ => trivial, fun q => absurd l q⟩
    · rw [p_X5_raisesOf_L5]; exact ⟨fun _ => trivial, fun q => absurd l q⟩
    · rw [f_X2_raisesAfter_L5, if_pos l]
    · rw [f_X5_raisesOf_L5, if_pos l]
  | succ r ih =>
    intro j n v hj hn
    obtain ⟨n, rfl⟩ : ∃ m, n = m + 1 := ⟨n - 1, by omega⟩
    have l : ¬ nI c ≤ nI j := nI_ge (by omega) (by omega)
    have hin := in300 (j := j) (by omega)
    have I := fun v' => ih (j + 1) n v' (by omega) (by omega)
    refine ⟨?_, ?_, ?_⟩
    · rw [p_X2_raisesAfter_L5]
      refine ⟨fun q => absurd q l, fun _ => ⟨hin, fun _ => ⟨hin, fun _ => ⟨hin, fun _ => ?_, fun _ => ?_⟩, fun _ => ?_⟩, fun _ => ?_⟩⟩ <;> rw [nI_1] <;> exact (I _).1
    · rw [p_X5_raisesOf_L5]
      refine ⟨fun q => absurd q l, fun _ => ⟨hin, ⟨fun _ => ⟨hin, fun _ => ⟨hin, fun _ => trivial, fun _ => trivial⟩, fun _ => trivial⟩, fun _ => trivial⟩, fun j4 _ => ?_⟩⟩
      rw [nI_1]
      exact (I _).2.1
    · rw [f_X2_raisesAfter_L5, f_X5_raisesOf_L5, if_neg l, if_neg l]
      dsimp only
      rw [nI_1]
      by_cases A : lk (nI j).toNatClampNeg = 0
      · rw [if_pos A, if_pos A]
        by_cases B : ln (nI j).toNatClampNeg = a
        · rw [if_pos B, if_pos B]
          by_cases C : lt (nI j).toNatClampNeg ≤ mw - w
          · rw [if_pos C, if_pos C, Int32.add_zero]; exact (I v).2.2
          · rw [if_neg C, if_neg C]; exact (I (v + 1)).2.2
        · rw [if_neg B, if_neg B, Int32.add_zero]; exact (I v).2.2
      · rw [if_neg A, if_neg A, Int32.add_zero]; exact (I v).2.2
theorem ra_same (lk ln lt : AA) (a mw w : Int32) {c : Nat} (hc : c ≤ 300) : p_X2_raisesAfter (nI c) lk ln lt a (mw - w) ∧ p_X5_raisesOf (nI c) mw lk ln lt a w ∧ f_X5_raisesOf (nI c) mw lk ln lt a w = f_X2_raisesAfter (nI c) lk ln lt a (mw - w) := by
  obtain ⟨p1, p2, x, e1, e2⟩ := ra_L lk ln lt a mw w hc c 0 301 0 (by omega) (by omega)
  rw [nI_0] at p1 p2 e1 e2
  refine ⟨⟨p1, fun _ _ _ => trivial⟩, ⟨p2, fun _ _ _ => trivial⟩, ?_⟩
  unfold f_X5_raisesOf f_X2_raisesAfter
  rw [e1, e2]
theorem st_same {gn gb mn mu lk ln lt : AA} {r t : Int32} (hs : SG gn gb mn mu) {c : Nat} (hc : c ≤ 300) {i : Nat} (hi : i < 14) : p_X4_stateNow r t gb (nI c) lk ln lt (nI i) ∧ p_X5_stateOf r (nI c) t mu lk ln lt (nI i) ∧ f_X5_stateOf r (nI c) t mu lk ln lt (nI i) = f_X4_stateNow r t gb (nI c) lk ln lt (nI i) := by
  obtain ⟨p1, p2, e⟩ := ra_same lk ln lt (nI i) t 10 hc
  refine ⟨⟨fun _ => trivial, fun _ => ⟨p1, fun _ => ⟨⟨in14 hi, trivial⟩, ⟨fun _ => trivial, fun _ => trivial⟩, fun _ _ => trivial⟩, fun _ => trivial⟩⟩, ⟨fun _ => trivial, fun _ => ⟨p2, ⟨fun _ => ⟨in14 hi, fun _ => trivial, fun _ => trivial⟩, fun _ => trivial⟩, fun _ _ => trivial⟩⟩, ?_⟩
  unfold f_X5_stateOf f_X4_stateNow
  rw [e, has_54 r (by omega), bel hi, cl (by omega), (hs i hi).2]
theorem ag_state {gn gb mn mu lk ln lt : AA} {r t : Int32} (hs : SG gn gb mn mu) {c : Nat} (hc : c ≤ 300) (a : Int32) : p_X4_state r t gb (nI c) lk ln lt a ∧ p_X5_state r (nI c) t mu lk ln lt a ∧ Ag1 (f_X4_state r t gb (nI c) lk ln lt a) (f_X5_state r (nI c) t mu lk ln lt a) := by
  refine ⟨fun q1 => ?_, fun x u hg => ⟨⟨fun _ => trivial, fun hx => ?_⟩, fun _ _ => trivial⟩, ?_⟩
  · obtain ⟨i, hi, rfl⟩ := chk_ok q1
    exact ⟨(st_same hs hc hi).1, trivial⟩
  · obtain ⟨i, hi, rfl⟩ := isn_ok (goes_r hg hx).1.1
    exact ⟨(st_same hs hc hi).2.1, trivial⟩
  · unfold f_X4_state f_X5_state
    rcases node_c a with ⟨i, hi, rfl, c1, c2⟩ | ⟨c1, c2⟩
    · rw [c1, c2]
      refine Or.inr ⟨_, rfl, ?_⟩
      rw [← (st_same hs hc hi).2.2]
      rfl
    · rw [c1, c2]
      exact Or.inl ⟨eIO, rfl, rfl⟩
theorem nt_L {gn gb mn mu lk ln lt : AA} {r t : Int32} (hs : SG gn gb mn mu) {c : Nat} (hc : c ≤ 300) (a : Int32) : ∀ (q j n : Nat) (v : Int32), j + q = 14 → q < n →
    p_X4_nodesThatAre_L23 r t gb (nI c) lk ln lt a n v (nI j) ∧ p_X5_nodesThatAre_L28 r (nI c) t mu lk ln lt a n v (nI j) ∧ ∃ x, f_X4_nodesThatAre_L23 r t gb (nI c) lk ln lt a n v (nI j) = (x, nI 14) ∧ f_X5_nodesThatAre_L28 r (nI c) t mu lk ln lt a n v (nI j) = (x, nI 14) := by
  intro q
  induction q with
  | zero =>
    intro j n v hj hn
    obtain ⟨n, rfl⟩ : ∃ m, n = m + 1 := ⟨n - 1, by omega⟩
    have e : j = 14 := by omega
    subst e
    refine ⟨?_, ?_, v, ?_, ?_⟩
    · rw [p_X4_nodesThatAre_L23]; exact ⟨fun _ => trivial, fun q => absurd y14 q⟩
    · rw [p_X5_nodesThatAre_L28]; exact ⟨fun _ => trivial, fun q => absurd y14 q⟩
    · rw [f_X4_nodesThatAre_L23, if_pos y14]
    · rw [f_X5_nodesThatAre_L28, if_pos y14]
  | succ q ih =>
    intro j n v hj hn
    obtain ⟨n, rfl⟩ : ∃ m, n = m + 1 := ⟨n - 1, by omega⟩
    have hj14 : j < 14 := by omega
    have l := n14 hj14
    obtain ⟨s1, s2, s3⟩ := st_same (lk := lk) (ln := ln) (lt := lt) (r := r) (t := t) hs hc hj14
    have I := fun v' => ih (j + 1) n v' (by omega) (by omega)
    refine ⟨?_, ?_, ?_⟩
    · rw [p_X4_nodesThatAre_L23]
      refine ⟨fun q => absurd q l, fun _ => ⟨s1, fun _ => ?_, fun _ => ?_⟩⟩ <;> rw [nI_1] <;> exact (I _).1
    · rw [p_X5_nodesThatAre_L28]
      refine ⟨fun q => absurd q l, fun _ => ⟨s2, ⟨fun _ => trivial, fun _ => trivial⟩, fun j9 _ => ?_⟩⟩
      rw [nI_1]
      exact (I _).2.1
    · rw [f_X4_nodesThatAre_L23, f_X5_nodesThatAre_L28, if_neg l, if_neg l]
      dsimp only
      rw [nI_1, s3]
      by_cases C : f_X4_stateNow r t gb (nI c) lk ln lt (nI j) = a
      · rw [if_pos C, if_pos C]; exact (I (v + 1)).2.2
      · rw [if_neg C, if_neg C, Int32.add_zero]; exact (I v).2.2
theorem lt_le (a b : Int32) : a < b ↔ ¬ b ≤ a := Int32.not_le.symm
theorem ag_nodes {gn gb mn mu lk ln lt : AA} {r t : Int32} (hs : SG gn gb mn mu) {c : Nat} (hc : c ≤ 300) (a : Int32) : p_X4_nodesThatAre r t gb (nI c) lk ln lt a ∧ p_X5_nodesThatAre r (nI c) t mu lk ln lt a ∧ Ag1 (f_X4_nodesThatAre r t gb (nI c) lk ln lt a) (f_X5_nodesThatAre r (nI c) t mu lk ln lt a) := by
  obtain ⟨p1, p2, x, e1, e2⟩ := nt_L (lk := lk) (ln := ln) (lt := lt) (r := r) (t := t) hs hc a 14 0 15 0 rfl (by decide)
  rw [nI_0] at p1 p2 e1 e2
  refine ⟨⟨fun _ => trivial, fun _ => ⟨fun _ => ⟨p1, fun _ _ _ => trivial⟩, fun _ => trivial⟩⟩, ⟨⟨fun _ => trivial, fun _ => ⟨fun _ => trivial, fun _ => trivial⟩⟩, fun _ _ _ _ _ => ⟨fun _ => trivial, fun _ => ⟨p2, fun _ _ _ => trivial⟩⟩⟩, ?_⟩
  unfold f_X4_nodesThatAre f_X5_nodesThatAre
  dsimp only
  rw [e1, e2]
  by_cases A : a < 0
  · rw [if_pos A, if_pos A]
    exact Or.inl ⟨eIA, rfl, rfl⟩
  · rw [if_neg A, if_neg A]
    by_cases B : a ≤ 3
    · have B2 : ¬ 3 < a := fun q => (lt_le 3 a).mp q B
      rw [if_pos B, if_neg B2]
      exact Or.inr ⟨_, rfl, rfl⟩
    · have B2 : 3 < a := (lt_le 3 a).mpr B
      rw [if_neg B, if_pos B2]
      exact Or.inl ⟨eIA, rfl, rfl⟩
theorem ag_raises {lk ln lt : AA} {t : Int32} {c : Nat} (hc : c ≤ 300) (a b : Int32) : p_X4_raises t (nI c) lk ln lt a b ∧ p_X5_raises (nI c) t lk ln lt a b ∧ Ag2 (f_X4_raises t (nI c) lk ln lt a b) (f_X5_raises (nI c) t lk ln lt a b) := by
  obtain ⟨p1, p2, e⟩ := ra_same lk ln lt a t b hc
  refine ⟨fun _ _ => ⟨p1, trivial⟩, ⟨⟨fun _ => trivial, fun _ => ⟨fun _ => trivial, fun _ => trivial⟩⟩, fun _ _ _ _ _ => ⟨⟨fun _ => trivial, fun _ => ⟨p2, trivial⟩⟩, fun _ _ => trivial⟩⟩, ?_⟩
  unfold f_X4_raises f_X5_raises
  dsimp only
  rcases node_c a with ⟨i, hi, ea, c1, c2⟩ | ⟨c1, c2⟩
  · rw [c1, c2, e]
    unfold f_X4_checkTicks
    by_cases A : b < 1
    · rw [if_pos A, if_pos A]
      refine Or.inl ⟨eIA, rfl, ?_⟩
      rw [if_neg eIA_ne]
      rfl
    · rw [if_neg A, if_neg A]
      by_cases B : b ≤ 1000
      · have B2 : ¬ 1000 < b := fun q => (lt_le 1000 b).mp q B
        rw [if_pos B, if_neg B2]
        exact Or.inr ⟨_, rfl, rfl⟩
      · have B2 : 1000 < b := (lt_le 1000 b).mpr B
        rw [if_neg B, if_pos B2]
        refine Or.inl ⟨eIA, rfl, ?_⟩
        rw [if_neg eIA_ne]
        rfl
  · rw [c1, c2]
    refine Or.inl ⟨eIO, rfl, ?_⟩
    rw [if_pos rfl]
    rfl
/-- tick: both refuse, or both go on -/
theorem ag_tick (t a : Int32) : (∃ E, f_X4_tick t a = .inl E ∧ f_X5_tick t a = (0, t, 1)) ∨ (f_X4_tick t a = .inr (t + a, t + a) ∧ f_X5_tick t a = (t + a, t + a, 0)) := by
  unfold f_X4_tick f_X5_tick f_X4_checkTicks
  dsimp only
  by_cases A : a < 1
  · rw [if_pos A, if_pos A]
    exact Or.inl ⟨eIA, rfl, rfl⟩
  · rw [if_neg A, if_neg A]
    by_cases B : a ≤ 100
    · have B2 : ¬ 100 < a := fun q => (lt_le 100 a).mp q B
      rw [if_pos B, if_neg B2]
      exact Or.inr ⟨rfl, rfl⟩
    · have B2 : 100 < a := (lt_le 100 a).mpr B
      rw [if_neg B, if_pos B2]
      exact Or.inl ⟨eIA, rfl, rfl⟩
theorem ev_c (a : Int32) {c : Nat} (hc : c ≤ 300) : (∃ j, j < c ∧ a = nI j ∧ f_X4_checkEvent (nI c) a = .inr () ∧ f_X5_isEvent (nI c) a = (1, 0)) ∨ (f_X4_checkEvent (nI c) a = .inl eIO ∧ f_X5_isEvent (nI c) a = (0, 1)) := by
  unfold f_X4_checkEvent f_X5_isEvent f_X2_count
  dsimp only
  rcases pk_ix a (n := c) (by omega) with q | q | ⟨i, hi, e⟩
  · refine Or.inr ⟨by rw [if_pos q], ?_⟩
    rw [if_pos q]
    rfl
  · have n0 : ¬ a < 0 := fun z => Int32.lt_irrefl (Int32.lt_of_lt_of_le z (Int32.le_trans (nI_pos' (n := c) (by omega)) q))
    have n1 : ¬ a < nI c := Int32.not_lt.mpr q
    refine Or.inr ⟨by rw [if_neg n0, if_neg n1], ?_⟩
    rw [if_neg n0, if_pos q]
    rfl
  · have n0 : ¬ nI i < 0 := nI_pos (by omega)
    have n1 : nI i < nI c := nI_lt hi (by omega)
    have n2 : ¬ nI c ≤ nI i := nI_ge hi (by omega)
    refine Or.inl ⟨i, hi, e, ?_, ?_⟩
    · rw [e, if_neg n0, if_pos n1]
    · rw [e, if_neg n0, if_neg n2]
      rfl
theorem ev_in {a : Int32} {c : Nat} (hc : c ≤ 300) (q : f_X4_checkEvent (nI c) a = .inr ()) : vp_in a 300 := by
  rcases ev_c a hc with ⟨j, hj, e, -, -⟩ | ⟨z, -⟩
  · rw [e]; exact in300 (by omega)
  · rw [z] at q; cases q
theorem ev_in5 {a r u : Int32} {c : Nat} (hc : c ≤ 300) (q : f_X5_isEvent (nI c) a = (r, u)) (hr : ¬ r = 0) : vp_in a 300 := by
  rcases ev_c a hc with ⟨j, hj, e, -, -⟩ | ⟨-, z⟩
  · rw [e]; exact in300 (by omega)
  · rw [z] at q; cases q; exact absurd rfl hr
theorem ag_ek (lk : AA) (a : Int32) {c : Nat} (hc : c ≤ 300) : p_X4_eventKind (nI c) a ∧ p_X5_eventKind (nI c) lk a ∧ Ag1 (f_X4_eventKind (nI c) lk a) (f_X5_eventKind (nI c) lk a) := by
  refine ⟨fun q => ⟨⟨ev_in hc q, trivial⟩, trivial⟩, fun r u hg => ⟨⟨fun _ => trivial, fun hr => ⟨ev_in5 hc hg hr, trivial⟩⟩, fun _ _ => trivial⟩, ?_⟩
  unfold f_X4_eventKind f_X5_eventKind
  rcases ev_c a hc with ⟨j, hj, e, e1, e2⟩ | ⟨e1, e2⟩
  · rw [e1, e2]; exact Or.inr ⟨_, rfl, rfl⟩
  · rw [e1, e2]; exact Or.inl ⟨eIO, rfl, rfl⟩
theorem ag_en (lk : AA) (a : Int32) {c : Nat} (hc : c ≤ 300) : p_X4_eventNode (nI c) a ∧ p_X5_eventNode (nI c) lk a ∧ Ag1 (f_X4_eventNode (nI c) lk a) (f_X5_eventNode (nI c) lk a) := by
  refine ⟨fun q => ⟨⟨ev_in hc q, trivial⟩, trivial⟩, fun r u hg => ⟨⟨fun _ => trivial, fun hr => ⟨ev_in5 hc hg hr, trivial⟩⟩, fun _ _ => trivial⟩, ?_⟩
  unfold f_X4_eventNode f_X5_eventNode
  rcases ev_c a hc with ⟨j, hj, e, e1, e2⟩ | ⟨e1, e2⟩
  · rw [e1, e2]; exact Or.inr ⟨_, rfl, rfl⟩
  · rw [e1, e2]; exact Or.inl ⟨eIO, rfl, rfl⟩
theorem ag_et (lk : AA) (a : Int32) {c : Nat} (hc : c ≤ 300) : p_X4_eventTime (nI c) a ∧ p_X5_eventTime (nI c) lk a ∧ Ag1 (f_X4_eventTime (nI c) lk a) (f_X5_eventTime (nI c) lk a) := by
  refine ⟨fun q => ⟨⟨ev_in hc q, trivial⟩, trivial⟩, fun r u hg => ⟨⟨fun _ => trivial, fun hr => ⟨ev_in5 hc hg hr, trivial⟩⟩, fun _ _ => trivial⟩, ?_⟩
  unfold f_X4_eventTime f_X5_eventTime
  rcases ev_c a hc with ⟨j, hj, e, e1, e2⟩ | ⟨e1, e2⟩
  · rw [e1, e2]; exact Or.inr ⟨_, rfl, rfl⟩
  · rw [e1, e2]; exact Or.inl ⟨eIO, rfl, rfl⟩
theorem ag_el (lk : AA) (a : Int32) {c : Nat} (hc : c ≤ 300) : p_X4_eventLength (nI c) a ∧ p_X5_eventLength (nI c) lk a ∧ Ag1 (f_X4_eventLength (nI c) lk a) (f_X5_eventLength (nI c) lk a) := by
  refine ⟨fun q => ⟨⟨ev_in hc q, trivial⟩, trivial⟩, fun r u hg => ⟨⟨fun _ => trivial, fun hr => ⟨ev_in5 hc hg hr, trivial⟩⟩, fun _ _ => trivial⟩, ?_⟩
  unfold f_X4_eventLength f_X5_eventLength
  rcases ev_c a hc with ⟨j, hj, e, e1, e2⟩ | ⟨e1, e2⟩
  · rw [e1, e2]; exact Or.inr ⟨_, rfl, rfl⟩
  · rw [e1, e2]; exact Or.inl ⟨eIO, rfl, rfl⟩
