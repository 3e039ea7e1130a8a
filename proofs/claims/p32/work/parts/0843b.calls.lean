theorem both_r {A B j : Int32} (h : (if A = 0 then (0 : Int32) else (if B = 0 then (0 : Int32) else (1 : Int32))) = j) (hj : ¬ j = 0) : ¬ A = 0 ∧ ¬ B = 0 := by
  constructor
  · intro q; rw [if_pos q] at h; exact hj h.symm
  · intro q
    by_cases r : A = 0
    · rw [if_pos r] at h; exact hj h.symm
    · rw [if_neg r, if_pos q] at h; exact hj h.symm
theorem eIA_ne : ¬ eIA = eIO := by unfold eIA eIO; decide
theorem eIS_ne : ¬ eIS = eIO := by unfold eIS eIO; decide
theorem bel {gb : AA} {j : Nat} (hj : j < 14) : f_X1_below gb (nI j) = gb j := by unfold f_X1_below; rw [cl (by omega)]
theorem abv {gb : AA} {j : Nat} (hj : j < 14) : f_X1_above gb (nI j) = gb j := by unfold f_X1_above; rw [cl (by omega)]
theorem ndd {gb : AA} {j : Nat} (hj : j < 14) : f_X1_needed gb (nI j) = gb j := by unfold f_X1_needed; rw [cl (by omega)]
theorem has_gb {gn gu gb ga : AA} (h : GI gn gu gb ga) {i j : Nat} (hi : i < 14) (hj : j < 14) : f_X4_has (gb j) (nI i) = 0 ↔ ¬ Rc (NR gn) j i := by
  have t : bt (gb j) i = true ↔ Rc (NR gn) j i := (h.2.2.2.2.2 j i hj hi).1
  rw [has4_0 (gb j) (by omega), ← t, Bool.not_eq_true]
theorem expl_dual {gn gu gb ga : AA} (h : GI gn gu gb ga) {i t : Nat} (hi : i < 14) (ht : t < 14) : bt (f_X1_explainersOf gb (nI i)) t = true ↔ bt (f_X1_explainedBy ga (nI t)) i = true := by
  unfold f_X1_explainersOf f_X1_explainedBy
  have a : bt (gb i) t = true ↔ Rc (NR gn) i t := (h.2.2.2.2.2 i t hi ht).1
  have b : bt (ga t) i = true ↔ Rc (NR gn) i t := (h.2.2.2.2.2 i t hi ht).2
  rw [cl (by omega), cl (by omega), b_or, b_or, Bool.or_eq_true, Bool.or_eq_true, only_bT hi, only_bT ht, a, b]
  exact or_congr ⟨fun q => q.symm, fun q => q.symm⟩ Iff.rfl
