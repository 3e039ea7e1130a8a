/-! ===== Int32 by its bits: bt x i ===== -/
def bt (x : Int32) (i : Nat) : Bool := x.toBitVec.getLsbD i
theorem b_ext {x y : Int32} (h : ∀ i, i < 32 → bt x i = bt y i) : x = y := Int32.toBitVec_inj.mp (BitVec.eq_of_getLsbD_eq (fun i hi => h i hi))
theorem b_or (x y : Int32) (i : Nat) : bt (x ||| y) i = (bt x i || bt y i) := by unfold bt; rw [Int32.toBitVec_or, BitVec.getLsbD_or]
theorem b_and (x y : Int32) (i : Nat) : bt (x &&& y) i = (bt x i && bt y i) := by unfold bt; rw [Int32.toBitVec_and, BitVec.getLsbD_and]
theorem b_xor (x y : Int32) (i : Nat) : bt (x ^^^ y) i = (bt x i ^^ bt y i) := by unfold bt; rw [Int32.toBitVec_xor, BitVec.getLsbD_xor]
theorem b_big {x : Int32} {i : Nat} (h : 32 ≤ i) : bt x i = false := BitVec.getLsbD_of_ge _ _ h
theorem b_m1 : ∀ i, i < 32 → bt (-1) i = true := by decide +kernel
theorem b_0 (i : Nat) : bt 0 i = false := BitVec.getLsbD_zero
theorem s_l : ∀ n, n < 32 → ((nI n &&& 31).toBitVec.smod 32).toNat = n := by decide +kernel
theorem s_u : ∀ n, n < 32 → (((nI n).toUInt32 &&& Int32.toUInt32 31).toBitVec % 32).toNat = n := by decide +kernel
theorem b_shl (n : Nat) (hn : n < 32) (x : Int32) {i : Nat} (hi : i < 32) : bt (x <<< (nI n &&& 31)) i = (decide (n ≤ i) && bt x (i - n)) := by
  unfold bt
  rw [Int32.toBitVec_shiftLeft]
  show (x.toBitVec <<< ((nI n &&& 31).toBitVec.smod 32).toNat).getLsbD i = _
  rw [s_l n hn, BitVec.getLsbD_shiftLeft]
  rcases Nat.lt_or_ge i n with h | h
  · simp [h, Nat.not_le.mpr h]
  · simp [hi, h, Nat.not_lt.mpr h]
theorem b_ushr (n : Nat) (hn : n < 32) (x : Int32) (i : Nat) : bt ((x.toUInt32 >>> ((nI n).toUInt32 &&& Int32.toUInt32 31)).toInt32) i = bt x (n + i) := by
  show (x.toUInt32 >>> ((nI n).toUInt32 &&& Int32.toUInt32 31)).toBitVec.getLsbD i = x.toUInt32.toBitVec.getLsbD (n + i)
  rw [UInt32.toBitVec_shiftRight]
  show (x.toUInt32.toBitVec >>> (((nI n).toUInt32 &&& Int32.toUInt32 31).toBitVec % 32).toNat).getLsbD i = _
  rw [s_u n hn, BitVec.getLsbD_ushiftRight]
theorem b_sshr (n : Nat) (hn : n < 32) (x : Int32) {i : Nat} (hi : i < 32) : bt (x >>> (nI n &&& 31)) i = if n + i < 32 then bt x (n + i) else bt x 31 := by
  unfold bt
  rw [Int32.toBitVec_shiftRight]
  show (x.toBitVec.sshiftRight ((nI n &&& 31).toBitVec.smod 32).toNat).getLsbD i = _
  rw [s_l n hn, BitVec.getLsbD_sshiftRight, BitVec.msb_eq_getLsbD_last]
  simp [hi]
/-! ===== sets of nodes: the bits 0 to 13 ===== -/
def M14 (x : Int32) : Prop := ∀ i, 14 ≤ i → bt x i = false
theorem M14.ext {x y : Int32} (hx : M14 x) (hy : M14 y) (h : ∀ i, i < 14 → bt x i = bt y i) : x = y := b_ext fun i _ => by
  rcases Nat.lt_or_ge i 14 with q | q
  · exact h i q
  · rw [hx i q, hy i q]
theorem M14.extT {x y : Int32} (hx : M14 x) (hy : M14 y) (h : ∀ i, i < 14 → (bt x i = true ↔ bt y i = true)) : x = y := M14.ext hx hy fun i hi => Bool.eq_iff_iff.mpr (h i hi)
theorem M14.zero : M14 0 := fun i _ => b_0 i
theorem M14.or {x y : Int32} (hx : M14 x) (hy : M14 y) : M14 (x ||| y) := fun i h => by rw [b_or, hx i h, hy i h]; rfl
theorem M14.and {x : Int32} (hx : M14 x) (y : Int32) : M14 (x &&& y) := fun i h => by rw [b_and, hx i h]; rfl
theorem M14.andR {y : Int32} (hy : M14 y) (x : Int32) : M14 (x &&& y) := fun i h => by rw [b_and, hy i h, Bool.and_false]
theorem M14.lt {x : Int32} (hx : M14 x) {i : Nat} (h : bt x i = true) : i < 14 := by
  rcases Nat.lt_or_ge i 14 with q | q
  · exact q
  · rw [hx i q] at h; cases h
theorem b_1 : ∀ k, k < 32 → bt 1 k = decide (k = 0) := by decide +kernel
theorem b_one {n i : Nat} (hn : n < 32) (hi : i < 32) : bt (1 <<< (nI n &&& 31)) i = decide (i = n) := by
  rw [b_shl n hn 1 hi]
  rcases Nat.lt_or_ge i n with h | h
  · rw [decide_eq_false (Nat.not_le.mpr h), decide_eq_false (by omega)]; rfl
  · rw [decide_eq_true h, b_1 _ (by omega), Bool.true_and]
    by_cases e : i = n
    · rw [decide_eq_true e, decide_eq_true (by omega)]
    · rw [decide_eq_false e, decide_eq_false (by omega)]
theorem only_b {n i : Nat} (hn : n < 14) : bt (f_X4_only (nI n)) i = decide (i = n) := by
  unfold f_X4_only
  rcases Nat.lt_or_ge i 32 with h | h
  · exact b_one (by omega) h
  · rw [b_big h, decide_eq_false (by omega)]
theorem only_M {n : Nat} (hn : n < 14) : M14 (f_X4_only (nI n)) := fun i h => by rw [only_b hn, decide_eq_false (by omega)]
theorem one_eq (n : Nat) : (1 : Int32) <<< (nI n &&& 31) = f_X4_only (nI n) := rfl
theorem not_b (x : Int32) {i : Nat} (hi : i < 32) : bt (x ^^^ (-1)) i = !bt x i := by rw [b_xor, b_m1 i hi, Bool.xor_true]
/-- a set is empty if no bit is set -/
theorem z_iff {x : Int32} (hx : M14 x) : x = 0 ↔ ∀ i, i < 14 → bt x i = false := ⟨fun h i _ => by rw [h, b_0], fun h => M14.ext hx M14.zero fun i hi => by rw [h i hi, b_0]⟩
theorem nz_iff {x : Int32} (hx : M14 x) : x ≠ 0 ↔ ∃ i, i < 14 ∧ bt x i = true := by
  refine ⟨fun h => ?_, fun ⟨i, hi, h⟩ e => by rw [e, b_0] at h; cases h⟩
  refine Classical.byContradiction fun c => h ((z_iff hx).mpr fun i hi => ?_)
  cases hb : bt x i
  · rfl
  · exact absurd ⟨i, hi, hb⟩ c
theorem has4 (x : Int32) {n : Nat} (hn : n < 32) : f_X4_has x (nI n) = if bt x n then 1 else 0 := by
  unfold f_X4_has f_X4_only
  have key : (x &&& (1 <<< (nI n &&& 31))) = 0 ↔ bt x n = false := by
    refine ⟨fun h => ?_, fun h => b_ext fun i hi => ?_⟩
    · have h1 := b_and x (1 <<< (nI n &&& 31)) n
      rw [h, b_0, b_one hn hn, decide_eq_true rfl, Bool.and_true] at h1
      exact h1.symm
    · rw [b_and, b_0, b_one hn hi]
      by_cases e : i = n
      · rw [e, h]; rfl
      · rw [decide_eq_false e, Bool.and_false]
  cases hb : bt x n
  · rw [if_pos (key.mpr hb)]; rfl
  · rw [if_neg (fun h => by rw [key.mp h] at hb; cases hb)]; rfl
theorem shr1 (x : Int32) {n : Nat} (hn : n < 32) : (x >>> (nI n &&& 31)) &&& 1 = if bt x n then 1 else 0 := by
  refine b_ext fun i hi => ?_
  rw [b_and, b_sshr n hn x hi, b_1 i hi]
  by_cases e : i = 0
  · subst e
    rw [if_pos (by omega), decide_eq_true rfl, Bool.and_true, Nat.add_zero]
    cases bt x n
    · exact (b_0 0).symm
    · rfl
  · rw [decide_eq_false e, Bool.and_false]
    cases bt x n
    · exact (b_0 i).symm
    · show false = bt 1 i
      rw [b_1 i hi, decide_eq_false e]
theorem has4_0 (x : Int32) {n : Nat} (hn : n < 32) : f_X4_has x (nI n) = 0 ↔ bt x n = false := by rw [has4 x hn]; cases bt x n <;> simp
theorem le14 {j : Nat} (hj : j < 2 ^ 31) : (14 : Int32) ≤ nI j ↔ 14 ≤ j := nI_leI (a := 14) (by decide) hj
theorem in14 {j : Nat} (h : j < 14) : vp_in (nI j) 14 := vp_in_nI h (by decide)
theorem cl {j : Nat} (h : j < 2 ^ 31) : (nI j).toNatClampNeg = j := nI_clamp h
