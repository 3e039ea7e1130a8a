/-! ===== the cases of the law, over states that agree ===== -/
def Rel (C T : Nat) (r : Int32) (gn gu gb ga tn tt mn mu mt md mz mi : AA) : Prop := GI gn gu gb ga ∧ SG gn gb mn mu ∧ M14 r ∧ C ≤ 300 ∧ T ≤ C ∧ TK T tn tt r mt md mz mi
def RF (rcf : Int32 → Int32 → Int32 → AA → AA → AA → AA → Int32 → AA → AA → AA → AA → AA → Int32 → AA → AA → Int32 → Int32 → Int32 → Int32 → Int32 → AA → AA → AA → AA → AA → AA → AA → AA → AA → AA → AA → LA → Int32) (v : Int32) : Prop := ∀ (C T : Nat) (r t mh : Int32) (gn gu gb ga lk ln lt ll lr tn tt mn mu mt md mz mi : AA) (oo : LA), Rel C T r gn gu gb ga tn tt mn mu mt md mz mi → rcf v r t gn gu gb ga (nI C) lk ln lt ll lr (nI T) tn tt r (nI T) (nI C) t mh mn mu lr mt md mz mi lk ln lt ll oo = 1
def RP (rcp : Int32 → Int32 → Int32 → AA → AA → AA → AA → Int32 → AA → AA → AA → AA → AA → Int32 → AA → AA → Int32 → Int32 → Int32 → Int32 → Int32 → AA → AA → AA → AA → AA → AA → AA → AA → AA → AA → AA → LA → Prop) (v : Int32) : Prop := ∀ (C T : Nat) (r t mh : Int32) (gn gu gb ga lk ln lt ll lr tn tt mn mu mt md mz mi : AA) (oo : LA), Rel C T r gn gu gb ga tn tt mn mu mt md mz mi → rcp v r t gn gu gb ga (nI C) lk ln lt ll lr (nI T) tn tt r (nI T) (nI C) t mh mn mu lr mt md mz mi lk ln lt ll oo
theorem cmp_self (x : Int64) : lg_cmp x x = 0 := by unfold lg_cmp; rw [if_neg (fun h => Int64.lt_irrefl h), if_pos rfl]
theorem pair_of {m : Int32 × Int32} {y : Int32} (h : m.2 = y) : ∃ x, m = (x, y) := ⟨m.1, by rw [← h]⟩
theorem law_if {c d X Y : Int32} (h : d = c) (hX : c = 0 → X = 1) (hY : ¬ c = 0 → Y = 1) : (if f_X5_thrown d = c then (if c = 0 then X else Y) else (0 : Int32)) = 1 := by
  unfold f_X5_thrown
  rw [if_pos h]
  by_cases q : c = 0
  · rw [if_pos q]; exact hX q
  · rw [if_neg q]; exact hY q
theorem cmp_if {a b : Int64} {X : Int32} (h : a = b) (hX : X = 1) : (if lg_cmp a b = 0 then X else (0 : Int32)) = 1 := by
  rw [h, cmp_self, if_pos rfl]; exact hX
theorem eq_if {a b X : Int32} (h : a = b) (hX : X = 1) : (if a = b then X else (0 : Int32)) = 1 := by
  rw [if_pos h]; exact hX
theorem pp (P : Prop) : True → (P → True) := fun _ _ => trivial
theorem n10 : ¬ (1 : Int32) = 0 := by decide
theorem n20 : ¬ (2 : Int32) = 0 := by decide
theorem rel_io {gn gu gb ga : AA} {a b : Int32} {E : String} (h : f_X4_release gn gu gb ga a b = .inl E) : E = eIO := by
  unfold f_X4_release at h
  rcases node_c a with ⟨i, hi, rfl, c1, c2⟩ | ⟨c1, c2⟩
  · rw [c1] at h
    dsimp only at h
    rcases node_c b with ⟨j, hj, rfl, d1, d2⟩ | ⟨d1, d2⟩
    · rw [d1] at h; cases h
    · rw [d1] at h; cases h; rfl
  · rw [c1] at h; cases h; rfl
