/-! ===== what the start gives ===== -/
theorem st_nb : ∀ q ∈ nbL, Cond.methodLinkNest q.1 q.2.1 q.2.2.1 q.2.2.2 ∈ lw_tbl := by decide +kernel
theorem st_str : ∀ q ∈ strL, Cond.stringRef RX4 q.1 q.2 ∈ lw_tbl := by decide +kernel
theorem st_cst : ∀ w ∈ cstL, w ∈ lw_tbl := by decide +kernel
theorem st_u0 : ∀ w ∈ u_ws RX0 TX0 3, w ∈ lw_tbl := by decide +kernel
theorem st_u1 : ∀ w ∈ u_ws RX1 TX1 4, w ∈ lw_tbl := by decide +kernel
theorem st_u2 : ∀ w ∈ u_ws RX2 TX2 6, w ∈ lw_tbl := by decide +kernel
theorem st_u3 : ∀ w ∈ u_ws RX3 TX3 3, w ∈ lw_tbl := by decide +kernel
theorem st_u4 : ∀ w ∈ u_ws RX4 TX4 5, w ∈ lw_tbl := by decide +kernel
theorem st_K {s : State} {args : Array Value} (hts : ∀ w ∈ lw_tbl, w.before args s = true) : ∃ (D : va_G) (cI : ClassId), va_K D vwCl [(cI, .int)] s := by
  obtain ⟨c0, i0, k0⟩ := u_known hts st_u0 (hts (.instantiable RX0 3) (by decide +kernel))
  obtain ⟨c1, i1, k1⟩ := u_known hts st_u1 (hts (.instantiable RX1 4) (by decide +kernel))
  obtain ⟨c2, i2, k2⟩ := u_known hts st_u2 (hts (.instantiable RX2 6) (by decide +kernel))
  obtain ⟨c3, i3, k3⟩ := u_known hts st_u3 (hts (.instantiable RX3 3) (by decide +kernel))
  obtain ⟨c4, i4, k4⟩ := u_known hts st_u4 (hts (.instantiable RX4 5) (by decide +kernel))
  obtain ⟨cI, kA, comp, h1, h2, h3⟩ := Cond.arrayClass_spec (hts (.arrayClass .int) (by decide +kernel))
  refine ⟨(fun c => if c = 0 then c0 else if c = 1 then c1 else if c = 2 then c2 else if c = 3 then c3 else c4, fun c => if c = 0 then i0 else if c = 1 then i1 else if c = 2 then i2 else if c = 3 then i3 else i4), cI, ?_, ?_⟩
  · intro c q hq
    rcases (show c = 0 ∨ c = 1 ∨ c = 2 ∨ c = 3 ∨ c = 4 ∨ 5 ≤ c by omega) with rfl | rfl | rfl | rfl | rfl | h
    · have e := Option.some.inj (show some (RX0, TX0, 3) = some q from hq)
      subst e
      exact k0
    · have e := Option.some.inj (show some (RX1, TX1, 4) = some q from hq)
      subst e
      exact k1
    · have e := Option.some.inj (show some (RX2, TX2, 6) = some q from hq)
      subst e
      exact k2
    · have e := Option.some.inj (show some (RX3, TX3, 3) = some q from hq)
      subst e
      exact k3
    · have e := Option.some.inj (show some (RX4, TX4, 5) = some q from hq)
      subst e
      exact k4
    · rw [List.getElem?_eq_none (show vwCl.length ≤ c from h)] at hq
      cases hq
  · intro k q hq
    cases k with
    | zero =>
      have e := Option.some.inj (show some (cI, FieldType.int) = some q from hq)
      subst e
      exact ⟨fun n z => ⟨fun k h => (by cases h), kA, h2, comp, h3⟩, h1⟩
    | succ k =>
      rw [List.getElem?_eq_none (by simp)] at hq
      cases hq
theorem st_XB {s : State} {args : Array Value} (hts : ∀ w ∈ lw_tbl, w.before args s = true) (hgv : (Jvm.Cond.and given_1 narrow_1).before args s = true) : XB (fun q => s.heap.size ≤ q) s s.heap := by
  have hs := flat_of_before _ hgv
  have hA : ∀ a : Nat, a < s.heap.size → ¬ s.heap.size ≤ a := fun a h => Nat.not_le.mpr h
  obtain ⟨c4, i4, k4⟩ := u_known hts st_u4 (hts (.instantiable RX4 5) (by decide +kernel))
  have hown : s.vm.findClass RX4 = some c4 := k4.2.1
  refine ⟨?_, ?_, ?_, ?_, ?_, ?_⟩
  · exact vx_Zqof (hts (.laysStatic Bundle.tN "UNASSIGNED_STACK" Bundle.steD) (by decide +kernel)) (hts (.initialized Bundle.tN) (by decide +kernel)) (hs (.isRef (.static Bundle.tN "UNASSIGNED_STACK" Bundle.steD)) (by decide +kernel)) hA
  · exact vx_Zqof (hts (.laysStatic Bundle.tN "SUPPRESSED_SENTINEL" Bundle.listD) (by decide +kernel)) (hts (.initialized Bundle.tN) (by decide +kernel)) (hs (.isRef (.static Bundle.tN "SUPPRESSED_SENTINEL" Bundle.listD)) (by decide +kernel)) hA
  · intro q hq
    have h0 : (Cond.stringRef RX4 q.1 q.2).before #[] s = true := hts _ (st_str q hq)
    obtain ⟨k, cf, i, a, -, -, -, -, -, hev⟩ := Cond.stringRef_spec hown h0
    exact ⟨a, h0, hev⟩
  · exact va_Nc.of (hs (.not (.castable eIA eIO)) (by decide +kernel))
  · exact va_Nc.of (hs (.not (.castable eIS eIO)) (by decide +kernel))
  · exact fun w hw => va_Nw.of (cstL_ok w hw).2 (hts w (st_cst w hw))
/-- YOUR PART: from the entry, for every script of at most 260 ints, the law comes to its end with true ('hflags': the launch's flags, for a law that throws: no stack traces) -/
theorem whole_start {p : Program} {e : Env} {s : State} {m : MethodId} {below : List Frame} {meth : Method} {c : Code} (l : Launch) (hflags : l.flags = flags0) {b L : Nat} {xs : Nat → Int32} (hL : L ≤ 260) (C0 : lw_At p s m meth c b L xs) : W p l e room_1 s m #[Value.ref b] below meth c s.heap [] 0 0 (lw_Z below #[Value.ref b] s) (entryFrame m ([Value.ref b] : List Value).toArray 10) := by
  obtain ⟨-, -, -, -, -, hts, -, -, -, hgv⟩ := id C0
  have hst : l.stackTraces = false := by
    unfold Launch.stackTraces
    rw [hflags]
    decide +kernel
  obtain ⟨D, cI, hK⟩ := st_K hts
  have hN : NB s := fun q hq => va_Nw.of rfl (hts _ (st_nb q hq))
  have ht := law_true xs hL
  exact law_walk l hst hL C0 hN (st_XB hts hgv) D cI hK ht.1.symm ht.2
