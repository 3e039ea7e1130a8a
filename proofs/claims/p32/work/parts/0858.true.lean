/-! ===== the law's function answers 1 ===== -/
theorem RM.zero : RM (fun _ => 0) := fun _ _ => M14.zero
theorem GI.zero : GI (fun _ => 0) (fun _ => 0) (fun _ => 0) (fun _ => 0) := by
  have hno : ∀ i j, ¬ NR (fun _ => (0 : Int32)) i j := fun i j q => by
    have q2 : bt 0 j = true := q
    rw [b_0] at q2
    cases q2
  have hrc : ∀ i j, ¬ Rc (NR (fun _ => (0 : Int32))) i j := fun i j ⟨n, hw⟩ => by
    match n, hw with
    | 0, hw => exact hno i j hw
    | n + 1, ⟨k, _, h1, _⟩ => exact hno i k h1
  exact ⟨RM.zero, RM.zero, fun i _ q => hrc i i q, fun i j _ _ => ⟨fun q => absurd q (hno _ _), fun q => absurd q (hno _ _)⟩, fun _ _ => ⟨M14.zero, M14.zero⟩, fun i j _ _ => ⟨⟨fun q => absurd q (hno _ _), fun q => absurd q (hrc _ _)⟩, ⟨fun q => absurd q (hno _ _), fun q => absurd q (hrc _ _)⟩⟩⟩
theorem init28 : ∀ (c j n : Nat) (a : AA), j + c = 14 → c < n → p_X3_init_L28 n (nI j) a ∧ ∃ a', f_X3_init_L28 n (nI j) a = (nI 14, a') ∧ ∀ k, k < 14 → a' k = if j ≤ k then -1 else a k := by
  intro c
  induction c with
  | zero =>
    intro j n a hj hn
    obtain ⟨n, rfl⟩ : ∃ k, n = k + 1 := ⟨n - 1, by omega⟩
    have e : j = 14 := by omega
    subst e
    refine ⟨?_, a, ?_, fun k hk => by rw [if_neg (by omega)]⟩
    · rw [p_X3_init_L28]; exact ⟨fun _ => trivial, fun q => absurd y14 q⟩
    · rw [f_X3_init_L28, if_pos y14]
  | succ c ih =>
    intro j n a hj hn
    obtain ⟨n, rfl⟩ : ∃ k, n = k + 1 := ⟨n - 1, by omega⟩
    have hj14 : j < 14 := by omega
    obtain ⟨a1, a', a2, a3⟩ := ih (j + 1) n (upd a j (-1)) (by omega) (by omega)
    refine ⟨?_, a', ?_, fun k hk => ?_⟩
    · rw [p_X3_init_L28]
      exact ⟨fun q => absurd q (n14 hj14), fun _ => ⟨in14 hj14, by rw [nI_1, cl (by omega)]; exact a1⟩⟩
    · rw [f_X3_init_L28, if_neg (n14 hj14), nI_1, cl (by omega)]; exact a2
    · rw [a3 k hk, upd_at]
      rcases Nat.lt_trichotomy k j with q | q | q
      · rw [if_neg (by omega), if_neg (by omega), if_neg (by omega)]
      · subst q
        rw [if_neg (by omega), if_pos rfl, if_pos (Nat.le_refl _)]
      · rw [if_pos (show j + 1 ≤ k from q), if_pos (by omega)]
theorem init49 : ∀ (c j n : Nat) (a : AA), j + c = 301 → c < n → p_X3_init_L49 n (nI j) a ∧ ∃ a', f_X3_init_L49 n (nI j) a = (nI 301, a') := by
  intro c
  induction c with
  | zero =>
    intro j n a hj hn
    obtain ⟨n, rfl⟩ : ∃ k, n = k + 1 := ⟨n - 1, by omega⟩
    have e : j = 301 := by omega
    subst e
    have l : (300 : Int32) < nI 301 := by decide +kernel
    refine ⟨?_, a, ?_⟩
    · rw [p_X3_init_L49]; exact ⟨fun _ => trivial, fun q => absurd l q⟩
    · rw [f_X3_init_L49, if_pos l]
  | succ c ih =>
    intro j n a hj hn
    obtain ⟨n, rfl⟩ : ∃ k, n = k + 1 := ⟨n - 1, by omega⟩
    have l : ¬ (300 : Int32) < nI j := nI_nlt (a := 300) (b := j) (by omega) (by decide)
    obtain ⟨a1, a', a2⟩ := ih (j + 1) n (upd a j (-1)) (by omega) (by omega)
    refine ⟨?_, a', ?_⟩
    · rw [p_X3_init_L49]
      exact ⟨fun q => absurd q l, fun _ => ⟨in301 (by omega), by rw [nI_1, cl (by omega)]; exact a1⟩⟩
    · rw [f_X3_init_L49, if_neg l, nI_1, cl (by omega)]; exact a2
theorem init_ok : p_X4_init ∧ ∃ lk ln lt ll lr tn tt, f_X4_init = ((fun _ => 0), (fun _ => 0), (fun _ => 0), (fun _ => 0), 0, lk, ln, lt, ll, lr, 0, tn, tt) ∧ ST 0 0 0 0 tn := by
  obtain ⟨a1, tn, a2, a3⟩ := init28 14 0 15 (fun _ => 0) rfl (by decide)
  obtain ⟨b1, tt, b2⟩ := init49 301 0 302 (fun _ => 0) rfl (by decide)
  rw [nI_0] at a1 a2 b1 b2
  have e3 : f_X3_init = (tn, tt) := by
    unfold f_X3_init
    rw [a2]
    dsimp only
    rw [b2]
  have p3 : p_X3_init := ⟨a1, fun _ _ q => ⟨b1, fun _ _ _ => trivial⟩⟩
  refine ⟨fun _ _ _ _ _ => fun _ _ _ _ _ _ => ⟨p3, fun _ _ _ => trivial⟩, (fun _ => 0), (fun _ => 0), (fun _ => 0), (fun _ => 0), (fun _ => 0), tn, tt, ?_, M14.zero, rfl, 0, rfl, Nat.le_refl _, fun k hk => Or.inl ⟨b_0 k, by rw [a3 k hk, if_pos (Nat.zero_le _)]⟩⟩
  unfold f_X4_init
  rw [e3]
  rfl
theorem law_true (xs : AA) {L : Nat} (hL : L ≤ 260) : f_L_law xs L = 1 ∧ p_L_law xs L := by
  have k1 : ¬ (1 : Int32) = 0 := by decide
  obtain ⟨p0, lk, ln, lt, ll, lr, tn, tt, e0, hS⟩ := init_ok
  obtain ⟨ph, eh⟩ := hangs_ok GI.zero
  obtain ⟨pc, ec⟩ := causes_ok GI.zero hS.1 (hS.tr (by omega))
  obtain ⟨pl, hl⟩ := law_S (xs := xs) hL 40 0 41 0 0 0 (fun _ => 0) (fun _ => 0) (fun _ => 0) (fun _ => 0) 0 lk ln lt ll lr 0 tn tt rfl (by decide) (Nat.le_refl _) GI.zero hS
  rw [nI_0] at pl hl
  obtain ⟨xr', xt', gn', gu', gb', ga', lc', lk', ln', lt', ll', lr', tw', tn', tt', el, hG, hM, hT⟩ := hl
  obtain ⟨ph2, eh2⟩ := hangs_ok hG
  obtain ⟨pc2, ec2⟩ := causes_ok hG hM hT
  have e3 : (if f_L_hangs (fun _ => 0) (fun _ => 0) = 0 then (0 : Int32) else (if f_L_causes (0 : Int32) (fun _ => 0) (fun _ => 0) (fun _ => 0) (fun _ => 0) tn = 0 then (0 : Int32) else (1 : Int32))) = 1 := by
    rw [eh, if_neg k1, ec, if_neg k1]
  constructor
  · unfold f_L_law
    rw [e0]
    dsimp only
    rw [e3, el]
    dsimp only
    rw [if_neg k1, eh2, if_neg k1, ec2, if_neg k1]
  · refine ⟨p0, fun u0 u1 u2 u3 u4 u5 u6 u7 u8 u9 u10 u11 u12 q => ?_⟩
    rw [e0] at q
    cases q
    refine ⟨ph, ⟨fun _ => trivial, fun _ => ⟨pc, fun _ => trivial, fun _ => trivial⟩⟩, fun y q => ?_⟩
    rw [e3] at q
    subst q
    refine ⟨pl, fun r0 r1 r2 r3 r4 r5 r6 r7 r8 r9 r10 r11 r12 r13 r14 r15 r16 q => ?_⟩
    rw [el] at q
    cases q
    exact ⟨⟨fun _ => trivial, fun _ => ⟨ph2, fun _ => trivial, fun _ => ⟨pc2, fun _ => trivial, fun _ => trivial⟩⟩⟩, fun _ _ => trivial⟩
