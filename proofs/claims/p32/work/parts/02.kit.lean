abbrev AA : Type := Nat → Int32
abbrev LA : Type := Nat → Int64
/-- the links between nest mates, which no list of words holds -/
def nbL : List (String × Nat × MethodName × String) := [(RX4, 18, yX2_init, RX4), (RX4, 9, yX1_init, RX4), (RX0, 52, yX4_has, RX4), (RX0, 55, yX4_nodeAtPlace, RX4), (RX0, 62, yX4_only, RX4), (RX1, 24, yX4_only, RX4), (RX1, 28, yX4_has, RX4), (RX3, 36, yX4_has, RX4)]
def NB (U : State) : Prop := ∀ q ∈ nbL, va_Nw (.methodLinkNest q.1 q.2.1 q.2.2.1 q.2.2.2) U
theorem NB.warm {s U : State} (hW : s.WarmedH U.vm) (h : NB s) : NB U := fun q hq => va_Nw.warmM hW (h q hq)
theorem NB.same {u U : State} (hv : u.vm = U.vm) (h : NB u) : NB U := fun q hq => va_Nw.same rfl hv (h q hq)
theorem NB.at {U : State} (h : NB U) (i : Nat) {q : String × Nat × MethodName × String} (hi : nbL[i]? = some q) : va_Nw (.methodLinkNest q.1 q.2.1 q.2.2.1 q.2.2.2) U := h q (List.mem_of_getElem? hi)
/-- the world that a call begins with -/
def PW (D : va_G) (tys : List (ClassId × FieldType)) (sz : Nat) (w : va_W) (U : State) : Prop := U.heap.size = sz ∧ va_P D vwCl w U.heap ∧ va_K D vwCl tys U ∧ va_D (fun _ => True) w ∧ NB U
/-- the world that a call ends with -/
def QW (D : va_G) (tys : List (ClassId × FieldType)) (A : Nat → Prop) (w : va_W) (t : State) : Prop := va_P D vwCl w t.heap ∧ va_K D vwCl tys t ∧ va_D A w
theorem PW.blind {av : List Value} {D : va_G} {tys : List (ClassId × FieldType)} {sz : Nat} {w : va_W} : FrameBlind (va_Pc av (PW D tys sz w)) := fun a U g mk q => by
  obtain ⟨q0, q1, q2, q3, q4, q5⟩ := q
  exact ⟨q0, q1, q2, va_K.moved (u := U) (U := U.calling g mk a) (Vm.Alike.refl U.vm) q3, q4, NB.same (u := U) rfl q5⟩
theorem PW.give {D : va_G} {tys : List (ClassId × FieldType)} {w : va_W} {s : State} {H : Heap} {A : Nat → Prop} (hP : va_P D vwCl w H) (hK : va_K D vwCl tys s) (hD : va_D A w) (hN : NB s) : ∀ U : State, U.heap = H → s.WarmedH U.vm → PW D tys H.size w U :=
  fun U hU hW => ⟨by rw [hU], by rw [hU]; exact hP, va_K.moved hW.alike hK, hD.weaken (fun _ _ _ _ => trivial), NB.warm hW hN⟩
theorem pick_of_map {α β : Type} {f : β → Option α} : ∀ {is : List β} {l : List α}, is.map f = l.map some → is.filterMap f = l
  | [], [], _ => rfl
  | [], _ :: _, h => by cases h
  | _ :: _, [], h => by cases h
  | i :: is, a :: l, h => by
    rw [List.map_cons, List.map_cons] at h
    have h1 := List.head_eq_of_cons_eq h
    have h2 := pick_of_map (List.tail_eq_of_cons_eq h)
    rw [List.filterMap_cons, h1, h2]
section
variable {p : Program} {l : Launch} {e : Env} {R : Room} {s : State} {m : MethodId} {args : Array Value} {below : List Frame} {meth : Method} {c : Code} {H : Heap} {locs : List Loc} {cells slots : Nat} {Q : State → Prop}
variable {mc ms : Nat} {A0 : Nat → Prop} {H0 : Heap} {a : Array Value} {pc : Nat} {ls : Array Slot} {st0 rest : List Value} {D : va_G} {tys : List (ClassId × FieldType)}
/-- what stands behind a call: the callee's cells as they came back, put where they were -/
theorem k_world {S : Type} {ws wc wr : va_W} {w1 w2 : S → va_W} (hP : va_P D vwCl ws H) (hD : va_D A0 ws) (hS : va_S A0 H0 H locs) (hA : ∀ q, H0.size ≤ q → A0 q)
    (isC isR : List Nat) (hC : isC.map (fun i => ws[i]?) = wc.map some) (hR : isR.map (fun i => ws[i]?) = wr.map some) (hn : va_nd isR = true) (hdis : (isR.all fun i => !isC.contains i) = true)
    (perm : List Nat) (hn2 : va_nd perm = true) (hp2 : ∀ u, perm.map (fun i => (wr ++ w1 u)[i]?) = (w2 u).map some)
    {u : S} {H1 : Heap} (hk1 : ∀ q : Nat, q < H.size → ¬ va_A wc H.size q → H1[q]? = H[q]?) (hP1 : va_P D vwCl (w1 u) H1) (hD1 : va_D (va_A wc H.size) (w1 u)) : va_P D vwCl (w2 u) H1 ∧ va_D A0 (w2 u) := by
  obtain ⟨h1, h2⟩ := va_join (wr := wr) (w1 := w1 u) hP hD isC isR hC hR hn (fun i hi hc => by
    have h9 := List.all_eq_true.mp hdis i hi
    rw [List.contains_iff_mem.mpr hc] at h9
    cases h9) hk1 (va_free (wc := wc) hD hS hA isC hC) hP1 hD1
  exact ⟨h1.sub perm (pick_of_map (hp2 u)), h2.sub perm hn2 (hp2 u)⟩
theorem k_calli {S : Type} {post : Int32 → S → Prop} {ws wc wr : va_W} {w1 : S → va_W} (w2 : S → va_W) (hP : va_P D vwCl ws H) (hK : va_K D vwCl tys s) (hD : va_D A0 ws) (hN : NB s) (hS : va_S A0 H0 H locs) (hA : ∀ q, H0.size ≤ q → A0 q)
    (isC isR : List Nat) (hC : isC.map (fun i => ws[i]?) = wc.map some) (hR : isR.map (fun i => ws[i]?) = wr.map some) (hn : va_nd isC = true) (hnr : va_nd isR = true) (hdis : (isR.all fun i => !isC.contains i) = true)
    (perm : List Nat) (hn2 : va_nd perm = true) (hp2 : ∀ u, perm.map (fun i => (wr ++ w1 u)[i]?) = (w2 u).map some)
    (run : (∀ U : State, U.heap = H → s.WarmedH U.vm → PW D tys H.size wc U) → va_Run p l e R s m args below meth c H locs cells slots mc ms (F0 m pc ls st0) rest (va_Qi post (fun u t => QW D tys (va_A wc H.size) (w1 u) t) (va_A wc H.size) a) (va_A wc H.size))
    (kk : ∀ (r : Int32) (u : S) (H1 : Heap) (locs1 : List Loc), post r u → va_P D vwCl (w2 u) H1 → va_D A0 (w2 u) → va_S A0 H0 H1 locs1 → W p l e R s m args below meth c H1 locs1 (cells + mc) (slots + ms) Q (F0 m (pc + 3) ls (.int r :: rest))) : W p l e R s m args below meth c H locs cells slots Q (F0 m pc ls st0) := by
  have hF := va_free (wc := wc) hD hS hA isC hC
  refine va_calli (run (PW.give (hP.sub isC (pick_of_map hC)) hK (hD.sub isC hn hC) hN)) hS (fun q _ h => hF q h) hF ?_
  intro r u t H1 locs1 ht hvm hw hB hz hk1 hS1
  obtain ⟨hP1, hK1, hD1⟩ := hB
  rw [ht] at hP1
  obtain ⟨h1, h2⟩ := k_world (w1 := w1) (w2 := w2) hP hD hS hA isC isR hC hR hnr hdis perm hn2 hp2 hk1 hP1 hD1
  exact kk r u H1 locs1 hw h1 h2 hS1
theorem k_callv {S : Type} {post : S → Prop} {ws wc wr : va_W} {w1 : S → va_W} (w2 : S → va_W) (hP : va_P D vwCl ws H) (hK : va_K D vwCl tys s) (hD : va_D A0 ws) (hN : NB s) (hS : va_S A0 H0 H locs) (hA : ∀ q, H0.size ≤ q → A0 q)
    (isC isR : List Nat) (hC : isC.map (fun i => ws[i]?) = wc.map some) (hR : isR.map (fun i => ws[i]?) = wr.map some) (hn : va_nd isC = true) (hnr : va_nd isR = true) (hdis : (isR.all fun i => !isC.contains i) = true)
    (perm : List Nat) (hn2 : va_nd perm = true) (hp2 : ∀ u, perm.map (fun i => (wr ++ w1 u)[i]?) = (w2 u).map some)
    (run : (∀ U : State, U.heap = H → s.WarmedH U.vm → PW D tys H.size wc U) → va_Run p l e R s m args below meth c H locs cells slots mc ms (F0 m pc ls st0) rest (va_Qv post (fun u t => QW D tys (va_A wc H.size) (w1 u) t) (va_A wc H.size) a) (va_A wc H.size))
    (kk : ∀ (u : S) (H1 : Heap) (locs1 : List Loc), post u → va_P D vwCl (w2 u) H1 → va_D A0 (w2 u) → va_S A0 H0 H1 locs1 → W p l e R s m args below meth c H1 locs1 (cells + mc) (slots + ms) Q (F0 m (pc + 3) ls rest)) : W p l e R s m args below meth c H locs cells slots Q (F0 m pc ls st0) := by
  have hF := va_free (wc := wc) hD hS hA isC hC
  refine va_callv (run (PW.give (hP.sub isC (pick_of_map hC)) hK (hD.sub isC hn hC) hN)) hS (fun q _ h => hF q h) hF ?_
  intro u t H1 locs1 ht hvm hw hB hz hk1 hS1
  obtain ⟨hP1, hK1, hD1⟩ := hB
  rw [ht] at hP1
  obtain ⟨h1, h2⟩ := k_world (w1 := w1) (w2 := w2) hP hD hS hA isC isR hC hR hnr hdis perm hn2 hp2 hk1 hP1 hD1
  exact kk u H1 locs1 hw h1 h2 hS1
theorem k_callr {S : Type} {post : S → Prop} {ws wc wr : va_W} {w1 : S → va_W} {ra : S → Nat} (w2 : S → va_W) (hP : va_P D vwCl ws H) (hK : va_K D vwCl tys s) (hD : va_D A0 ws) (hN : NB s) (hS : va_S A0 H0 H locs) (hA : ∀ q, H0.size ≤ q → A0 q)
    (isC isR : List Nat) (hC : isC.map (fun i => ws[i]?) = wc.map some) (hR : isR.map (fun i => ws[i]?) = wr.map some) (hn : va_nd isC = true) (hnr : va_nd isR = true) (hdis : (isR.all fun i => !isC.contains i) = true)
    (perm : List Nat) (hn2 : va_nd perm = true) (hp2 : ∀ u, perm.map (fun i => (wr ++ w1 u)[i]?) = (w2 u).map some)
    (run : (∀ U : State, U.heap = H → s.WarmedH U.vm → PW D tys H.size wc U) → va_Run p l e R s m args below meth c H locs cells slots mc ms (F0 m pc ls st0) rest (va_Qr post (fun u x t => x = ra u ∧ QW D tys (va_A wc H.size) (w1 u) t) (va_A wc H.size) a) (va_A wc H.size))
    (kk : ∀ (u : S) (H1 : Heap) (locs1 : List Loc), post u → va_P D vwCl (w2 u) H1 → va_D A0 (w2 u) → va_S A0 H0 H1 locs1 → W p l e R s m args below meth c H1 locs1 (cells + mc) (slots + ms) Q (F0 m (pc + 3) ls (.ref (ra u) :: rest))) : W p l e R s m args below meth c H locs cells slots Q (F0 m pc ls st0) := by
  have hF := va_free (wc := wc) hD hS hA isC hC
  refine va_callr (run (PW.give (hP.sub isC (pick_of_map hC)) hK (hD.sub isC hn hC) hN)) hS (fun q _ h => hF q h) hF ?_
  intro u ra t H1 locs1 ht hvm hw hB hz hk1 hS1
  obtain ⟨rfl, hP1, hK1, hD1⟩ := hB
  rw [ht] at hP1
  obtain ⟨h1, h2⟩ := k_world (w1 := w1) (w2 := w2) hP hD hS hA isC isR hC hR hnr hdis perm hn2 hp2 hk1 hP1 hD1
  exact kk u H1 locs1 hw h1 h2 hS1
/-- a new array of ints, of the one class that they all have -/
theorem k_newI {ws : va_W} {cI : ClassId} (hexec : p.tables.exec = Jvm.exec) {cc : ByteArray} (hb : c.code = cc) (harr : (Cond.arrayClass .int).before args s = true) {rs : List (ClassId × FieldType)} (hK : va_K D vwCl ((cI, .int) :: rs) s) (hP : va_P D vwCl ws H) (hD : va_D A0 ws) (hS : va_S A0 H0 H locs) (hA : ∀ q, H0.size ≤ q → A0 q)
    {n : Int32} {N' : Nat} (hn : ¬ n < 0) (hN : n.toNatClampNeg = N') (hbytes : N' * 4 ≤ 536870912) (hcells : cells + 1 ≤ R.cells) (hslots : slots + N' ≤ R.slots) (hdg : decode cc pc = .ok (.newarray .int, 2))
    (kk : ∀ (q : Nat) (H1 : Heap), va_P D vwCl (ws ++ [(q, .inl (cI, N', .inl (fun _ => 0)))]) H1 → va_D A0 (ws ++ [(q, .inl (cI, N', .inl (fun _ => 0)))]) → va_S A0 H0 H1 locs →
      W p l e R s m args below meth c H1 locs (cells + 1) (slots + N') Q (F0 m (pc + 2) ls (.ref q :: rest))) : W p l e R s m args below meth c H locs cells slots Q (F0 m pc ls (.int n :: rest)) := by
  refine va_newa (N' := N') (atype := .int) (ty := .int) (a0 := (N', .inl (fun _ => 0))) hexec hb harr rfl hK hP hD hS hA (fun cA => rfl) hn hN hbytes hcells hslots hdg ?_
  intro q cA H1 hK1 hP1 hD1 hS1
  have e1 := (hK1.2 0 (cI, .int) rfl).2
  have e2 := (hK1.2 (rs.length + 1) (cA, .int) (by simp)).2
  have e3 : cI = cA := Option.some.inj (Eq.trans (Eq.symm (show s.vm.findClass _ = some cI from e1)) (show s.vm.findClass _ = some cA from e2))
  subst e3
  exact kk q H1 hP1 hD1 hS1
end
