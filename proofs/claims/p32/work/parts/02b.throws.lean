/-- the texts of the exceptions that the class throws -/
def strL : List (Nat × String) := [(168, "no such place"), (180, "no such node"), (182, "ticks out of range"), (190, "the alarm can't change"), (51, "a node would depend on itself")]
abbrev eIO : String := "java/lang/IndexOutOfBoundsException"
abbrev eIA : String := "java/lang/IllegalArgumentException"
abbrev eIS : String := "java/lang/IllegalStateException"
abbrev eUp : List String := ["java/lang/RuntimeException", "java/lang/Exception"]
/-- the words of the throws that speak of casts -/
def cstL : List Cond := (vx_atS RX4 170 eIO eUp).filter (fun w => !goodWord w) ++ (vx_atS RX4 53 eIA eUp).filter (fun w => !goodWord w) ++ (vx_atS RX4 192 eIS eUp).filter (fun w => !goodWord w)
theorem cstL_ok : ∀ w ∈ cstL, w.faceAtom = true ∧ w.onTables = true := by decide +kernel
theorem cst_warm {s U : State} (hW : s.WarmedH U.vm) (h : ∀ w ∈ cstL, va_Nw w s) : ∀ w ∈ cstL, va_Nw w U := fun w hw =>
  va_tabs (cstL_ok w hw).2 (rfl : (s.setVm U.vm).vm = U.vm) (Cond.faceAtom_setVm (args := #[]) hW.alike w (cstL_ok w hw).1 (h w hw))
theorem cst_same {u U : State} (hv : u.vm = U.vm) (h : ∀ w ∈ cstL, va_Nw w u) : ∀ w ∈ cstL, va_Nw w U := fun w hw => va_Nw.same (cstL_ok w hw).2 hv (h w hw)
/-- what a throw needs of the start: two statics of Throwable, the texts, which classes are not above which -/
def XB (A : Nat → Prop) (U : State) (H : Heap) : Prop := vx_Zq Bundle.tN "UNASSIGNED_STACK" Bundle.steD A U H ∧ vx_Zq Bundle.tN "SUPPRESSED_SENTINEL" Bundle.listD A U H ∧ (∀ q ∈ strL, ∃ a : Nat, vk_R RX4 q.1 q.2 a U) ∧ va_Nc eIA eIO U ∧ va_Nc eIS eIO U ∧ ∀ w ∈ cstL, va_Nw w U
theorem XB.cast {A : Nat → Prop} {U : State} {H : Heap} (h : XB A U H) {w : Cond} (hw : w ∈ cstL) {args : Array Value} : w.before args U = true := va_Nw.use (cstL_ok w hw).2 (h.2.2.2.2.2 w hw)
def PX (D : va_G) (tys : List (ClassId × FieldType)) (sz : Nat) (w : va_W) (U : State) : Prop := PW D tys sz w U ∧ XB (va_A w sz) U U.heap
theorem PX.blind {av : List Value} {D : va_G} {tys : List (ClassId × FieldType)} {sz : Nat} {w : va_W} : FrameBlind (va_Pc av (PX D tys sz w)) := fun a U g mk q => by
  obtain ⟨q0, q1, q2, q3, q4, q5, q6, q7⟩ := q
  have h1 := PW.blind (av := av) (D := D) (tys := tys) (sz := sz) (w := w) a U g mk ⟨q0, q1⟩
  exact ⟨q0, h1.2, vx_Zq.moved (u := U) (Vm.Alike.refl U.vm) q2, vx_Zq.moved (u := U) (Vm.Alike.refl U.vm) q3, fun z hz => by obtain ⟨y, hy⟩ := q4 z hz; exact ⟨y, vk_R.same (u := U) rfl hy⟩, va_Nc.moved (u := U) (Vm.Alike.refl U.vm) q5, va_Nc.moved (u := U) (Vm.Alike.refl U.vm) q6, cst_same (u := U) rfl q7⟩
theorem PX.give {D : va_G} {tys : List (ClassId × FieldType)} {w : va_W} {s : State} {H : Heap} {locs : List Loc} {A : Nat → Prop} (hP : va_P D vwCl w H) (hK : va_K D vwCl tys s) (hD : va_D A w) (hN : NB s) (hX : XB A s s.heap) (hS : va_S A s.heap H locs) (hF : ∀ q, va_A w H.size q → A q) : ∀ U : State, U.heap = H → s.WarmedH U.vm → PX D tys H.size w U :=
  fun U hU hW => ⟨PW.give hP hK hD hN U hU hW, by
    rw [hU]
    have z : ∀ {C n d : String}, vx_Zq C n d A s s.heap → vx_Zq C n d (va_A w H.size) U H := fun h => vx_Zq.moved hW.alike (vx_Zq.narrow (vx_Zq.kept h hS.2.1) hF)
    exact ⟨z hX.1, z hX.2.1, fun q hq => by obtain ⟨y, hy⟩ := hX.2.2.1 q hq; exact ⟨y, vk_R.warm hW hy⟩, va_Nc.moved hW.alike hX.2.2.2.1, va_Nc.moved hW.alike hX.2.2.2.2.1, cst_warm hW hX.2.2.2.2.2⟩⟩
section
variable {p : Program} {l : Launch} {e : Env} {R : Room} {s : State} {m : MethodId} {args : Array Value} {below : List Frame} {meth : Method} {c : Code} {H : Heap} {locs : List Loc} {cells slots : Nat} {Q : State → Prop}
variable {mc ms : Nat} {A0 : Nat → Prop} {a : Array Value} {pc : Nat} {ls : Array Slot} {st0 rest : List Value} {D : va_G} {tys : List (ClassId × FieldType)}
/-- a call that may throw, and answers an int -/
theorem k_xcalli {S : Type} {post : Int32 → S → Prop} {px : String → Prop} {ws wc wr : va_W} {w1 : S → va_W} (w2 : S → va_W) (hP : va_P D vwCl ws H) (hK : va_K D vwCl tys s) (hD : va_D A0 ws) (hN : NB s) (hX : XB A0 s s.heap) (hS : va_S A0 s.heap H locs) (hA : ∀ q, s.heap.size ≤ q → A0 q)
    (isC isR : List Nat) (hC : isC.map (fun i => ws[i]?) = wc.map some) (hR : isR.map (fun i => ws[i]?) = wr.map some) (hn : va_nd isC = true) (hnr : va_nd isR = true) (hdis : (isR.all fun i => !isC.contains i) = true)
    (perm : List Nat) (hn2 : va_nd perm = true) (hp2 : ∀ u, perm.map (fun i => (wr ++ w1 u)[i]?) = (w2 u).map some) (hpx : perm.map (fun i => (wr ++ wc)[i]?) = ws.map some)
    (run : (∀ U : State, U.heap = H → s.WarmedH U.vm → PX D tys H.size wc U) → vx_Run p l e R s m args below meth c H locs cells slots mc ms (F0 m pc ls st0) rest (va_Qi post (fun u t => QW D tys (va_A wc H.size) (w1 u) t) (va_A wc H.size) a) (vx_X (fun _ : Unit => True) (fun E _ t => px E ∧ QW D tys (va_A wc H.size) wc t) (va_A wc H.size)) (va_A wc H.size))
    (kx : ∀ (E : String) (ce : Cell) (q9 : Addr) (H1 : Heap) (locs1 : List Loc), px E → va_P D vwCl ws H1 → va_D A0 ws → va_S A0 s.heap H1 locs1 → H1[q9]? = some ce → ce.vm = .none → s.vm.findClass E = some ce.cls → vx_W p l e R s m args below meth c H1 locs1 (cells + mc) (slots + ms) Q (F0 m pc ls rest) q9)
    (kk : ∀ (r : Int32) (u : S) (H1 : Heap) (locs1 : List Loc), post r u → va_P D vwCl (w2 u) H1 → va_D A0 (w2 u) → va_S A0 s.heap H1 locs1 → W p l e R s m args below meth c H1 locs1 (cells + mc) (slots + ms) Q (F0 m (pc + 3) ls (.int r :: rest))) : W p l e R s m args below meth c H locs cells slots Q (F0 m pc ls st0) := by
  have hF := va_free (wc := wc) hD hS hA isC hC
  refine vx_calli (run (PX.give (hP.sub isC (pick_of_map hC)) hK (hD.sub isC hn hC) hN hX hS hF)) hS (fun q _ h => hF q h) hF (fun q _ h => hF q h) ?_ ?_
  · intro E ce q9 u t H1 locs1 ht hvm _ hB hz hk1 hS1 h7 h8 h9
    obtain ⟨hw, hP1, hK1, hD1⟩ := hB
    rw [ht] at hP1
    obtain ⟨h1, h2⟩ := k_world (S := Unit) (w1 := fun _ => wc) (w2 := fun _ => ws) hP hD hS hA isC isR hC hR hnr hdis perm hn2 (fun _ => hpx) (u := ()) hk1 hP1 hD1
    exact kx E ce q9 H1 locs1 hw h1 h2 hS1 h7 h8 h9
  · intro r u t H1 locs1 ht hvm hw hB hz hk1 hS1
    obtain ⟨hP1, hK1, hD1⟩ := hB
    rw [ht] at hP1
    obtain ⟨h1, h2⟩ := k_world (w1 := w1) (w2 := w2) hP hD hS hA isC isR hC hR hnr hdis perm hn2 hp2 hk1 hP1 hD1
    exact kk r u H1 locs1 hw h1 h2 hS1
/-- .. and answers nothing -/
theorem k_xcallv {S : Type} {post : S → Prop} {px : String → Prop} {ws wc wr : va_W} {w1 : S → va_W} (w2 : S → va_W) (hP : va_P D vwCl ws H) (hK : va_K D vwCl tys s) (hD : va_D A0 ws) (hN : NB s) (hX : XB A0 s s.heap) (hS : va_S A0 s.heap H locs) (hA : ∀ q, s.heap.size ≤ q → A0 q)
    (isC isR : List Nat) (hC : isC.map (fun i => ws[i]?) = wc.map some) (hR : isR.map (fun i => ws[i]?) = wr.map some) (hn : va_nd isC = true) (hnr : va_nd isR = true) (hdis : (isR.all fun i => !isC.contains i) = true)
    (perm : List Nat) (hn2 : va_nd perm = true) (hp2 : ∀ u, perm.map (fun i => (wr ++ w1 u)[i]?) = (w2 u).map some) (hpx : perm.map (fun i => (wr ++ wc)[i]?) = ws.map some)
    (run : (∀ U : State, U.heap = H → s.WarmedH U.vm → PX D tys H.size wc U) → vx_Run p l e R s m args below meth c H locs cells slots mc ms (F0 m pc ls st0) rest (va_Qv post (fun u t => QW D tys (va_A wc H.size) (w1 u) t) (va_A wc H.size) a) (vx_X (fun _ : Unit => True) (fun E _ t => px E ∧ QW D tys (va_A wc H.size) wc t) (va_A wc H.size)) (va_A wc H.size))
    (kx : ∀ (E : String) (ce : Cell) (q9 : Addr) (H1 : Heap) (locs1 : List Loc), px E → va_P D vwCl ws H1 → va_D A0 ws → va_S A0 s.heap H1 locs1 → H1[q9]? = some ce → ce.vm = .none → s.vm.findClass E = some ce.cls → vx_W p l e R s m args below meth c H1 locs1 (cells + mc) (slots + ms) Q (F0 m pc ls rest) q9)
    (kk : ∀ (u : S) (H1 : Heap) (locs1 : List Loc), post u → va_P D vwCl (w2 u) H1 → va_D A0 (w2 u) → va_S A0 s.heap H1 locs1 → W p l e R s m args below meth c H1 locs1 (cells + mc) (slots + ms) Q (F0 m (pc + 3) ls rest)) : W p l e R s m args below meth c H locs cells slots Q (F0 m pc ls st0) := by
  have hF := va_free (wc := wc) hD hS hA isC hC
  refine vx_callv (run (PX.give (hP.sub isC (pick_of_map hC)) hK (hD.sub isC hn hC) hN hX hS hF)) hS (fun q _ h => hF q h) hF (fun q _ h => hF q h) ?_ ?_
  · intro E ce q9 u t H1 locs1 ht hvm _ hB hz hk1 hS1 h7 h8 h9
    obtain ⟨hw, hP1, hK1, hD1⟩ := hB
    rw [ht] at hP1
    obtain ⟨h1, h2⟩ := k_world (S := Unit) (w1 := fun _ => wc) (w2 := fun _ => ws) hP hD hS hA isC isR hC hR hnr hdis perm hn2 (fun _ => hpx) (u := ()) hk1 hP1 hD1
    exact kx E ce q9 H1 locs1 hw h1 h2 hS1 h7 h8 h9
  · intro u t H1 locs1 ht hvm hw hB hz hk1 hS1
    obtain ⟨hP1, hK1, hD1⟩ := hB
    rw [ht] at hP1
    obtain ⟨h1, h2⟩ := k_world (w1 := w1) (w2 := w2) hP hD hS hA isC isR hC hR hnr hdis perm hn2 hp2 hk1 hP1 hD1
    exact kk u H1 locs1 hw h1 h2 hS1
/-- a method's own throw, its words out of the method's list -/
theorem k_throw {cc : ByteArray} {pc : Nat} {Qc : Array Value → State → Outcome → State → Prop} {px : String → Prop} (hexec : p.tables.exec = Jvm.exec) (hb : c.code = cc) (hl : l.stackTraces = false) {cls text : String} {ik is ic : Nat} {A : Nat → Prop} {ws : va_W} {Ts : List Cond}
    (hts : ∀ w ∈ Ts, w.before args s = true) (hown : s.vm.findClass RX4 = some m.cls) (hcls : Bundle.fit cls = true)
    (hk : Cond.classLink RX4 ik cls ∈ Ts) (hini : Cond.initialized cls ∈ Ts) (hstr : (is, text) ∈ strL)
    (hat : ∀ w ∈ (vx_atS RX4 ic cls ["java/lang/RuntimeException", "java/lang/Exception"]).filter goodWord, w ∈ Ts) (hat2 : ∀ w ∈ (vx_atS RX4 ic cls ["java/lang/RuntimeException", "java/lang/Exception"]).filter (fun w => !goodWord w), w ∈ cstL)
    (hgood : ∀ w ∈ Cond.classLink RX4 ik cls :: Cond.initialized cls :: vx_atS RX4 ic cls ["java/lang/RuntimeException", "java/lang/Exception"], vx_ot w = true)
    (hX : XB A s s.heap) (hP : va_P D vwCl ws H) (hK : va_K D vwCl tys s) (hD : va_D A ws) (hS : va_S A s.heap H locs) (hsize : ls.size = c.maxLocals)
    (d0 : decode cc pc = .ok (.new ik, 3)) (d3 : decode cc (pc + 3) = .ok (.dup, 1)) (d4 : decode cc (pc + 4) = .ok (.ldc is, 2)) (d6 : decode cc (pc + 6) = .ok (.invokespecial ic, 3)) (d9 : decode cc (pc + 9) = .ok (.athrow, 1))
    (hout : ∀ x ∈ c.exceptionTable.toList, covers x (pc + 9) = false) (hRf : 6 ≤ R.frames) (hRl : (rest.map fun v => v.category).sum + 82 ≤ R.locals) (hRc : cells + 1 ≤ R.cells) (hRs : slots + 6 ≤ R.slots) (hlocks : meth.locks = false)
    (hc : cells + 1 ≤ mc) (hs : slots + 6 ≤ ms) (he : px cls) :
    W p l e R s m args below meth c H locs cells slots (vx_MQ below Qc (vx_X (fun _ : Unit => True) (fun E _ t => px E ∧ QW D tys A ws t) A) args s mc ms A) (F0 m pc ls rest) := by
  obtain ⟨sa, hsa⟩ := hX.2.2.1 _ hstr
  refine vx_throwS (names := ["java/lang/RuntimeException", "java/lang/Exception"]) hexec hb hl hown hcls (by decide +kernel) (hts _ hk) (hts _ hini) hsa ?_ hgood hX.1 hX.2.1 hS hsize d0 d3 d4 d6 d9 hout hRf hRl hRc hRs hlocks ?_ hS.2.2 hc hs
  · exact vx_hat (B := cstL) (fun w h => hts w (hat w h)) hat2 (fun w h => hX.cast h)
  · intro t hal hsz hkp
    refine ⟨(), trivial, ⟨he, ?_, va_K.moved hal hK, hD⟩, ?_⟩
    · exact hP.kept (fun k x hx => hkp x.1 ((hP k x hx).lt))
    · exact ⟨Nat.le_trans hS.1 hsz, fun q h1 h2 => (hkp q (Nat.lt_of_lt_of_le h1 hS.1)).trans (hS.2.1 q h1 h2)⟩
/-- not caught: out of the method -/
theorem k_out {pc : Nat} {Qc : Array Value → State → Outcome → State → Prop} {px : String → Prop} {E : String} {ce : Cell} {q9 : Addr} {A : Nat → Prop} {ws : va_W} (hout : ∀ x ∈ c.exceptionTable.toList, covers x pc = false) (hlocks : meth.locks = false)
    (hP : va_P D vwCl ws H) (hK : va_K D vwCl tys s) (hD : va_D A ws) (hS : va_S A s.heap H locs) (hcell : H[q9]? = some ce) (hv : ce.vm = .none) (hcl : s.vm.findClass E = some ce.cls) (hc : cells ≤ mc) (hs : slots ≤ ms) (he : px E) :
    vx_W p l e R s m args below meth c H locs cells slots (vx_MQ below Qc (vx_X (fun _ : Unit => True) (fun E _ t => px E ∧ QW D tys A ws t) A) args s mc ms A) (F0 m pc ls rest) q9 :=
  vx_out hout hlocks hcell hv hcl (fun t ht hal => ⟨(), trivial, ⟨he, by rw [ht]; exact hP, va_K.moved hal hK, hD⟩, hS.F ht⟩) hS.2.2 hc hs
end
section
variable {p : Program} {l : Launch} {e : Env} {R : Room} {s : State} {m : MethodId} {args : Array Value} {below : List Frame} {meth : Method} {c : Code} {H : Heap} {locs : List Loc} {cells slots : Nat} {Q : State → Prop}
variable {mc ms : Nat} {A0 : Nat → Prop} {a : Array Value} {pc : Nat} {ls : Array Slot} {st0 rest : List Value} {D : va_G} {tys : List (ClassId × FieldType)}
/-- a call of a method that catches what it calls -/
theorem k_ycalli {S : Type} {post : Int32 → S → Prop} {ws wc wr : va_W} {w1 : S → va_W} (w2 : S → va_W) (hP : va_P D vwCl ws H) (hK : va_K D vwCl tys s) (hD : va_D A0 ws) (hN : NB s) (hX : XB A0 s s.heap) (hS : va_S A0 s.heap H locs) (hA : ∀ q, s.heap.size ≤ q → A0 q)
    (isC isR : List Nat) (hC : isC.map (fun i => ws[i]?) = wc.map some) (hR : isR.map (fun i => ws[i]?) = wr.map some) (hn : va_nd isC = true) (hnr : va_nd isR = true) (hdis : (isR.all fun i => !isC.contains i) = true)
    (perm : List Nat) (hn2 : va_nd perm = true) (hp2 : ∀ u, perm.map (fun i => (wr ++ w1 u)[i]?) = (w2 u).map some)
    (run : (∀ U : State, U.heap = H → s.WarmedH U.vm → PX D tys H.size wc U) → va_Run p l e R s m args below meth c H locs cells slots mc ms (F0 m pc ls st0) rest (va_Qi post (fun u t => QW D tys (va_A wc H.size) (w1 u) t) (va_A wc H.size) a) (va_A wc H.size))
    (kk : ∀ (r : Int32) (u : S) (H1 : Heap) (locs1 : List Loc), post r u → va_P D vwCl (w2 u) H1 → va_D A0 (w2 u) → va_S A0 s.heap H1 locs1 → W p l e R s m args below meth c H1 locs1 (cells + mc) (slots + ms) Q (F0 m (pc + 3) ls (.int r :: rest))) : W p l e R s m args below meth c H locs cells slots Q (F0 m pc ls st0) := by
  have hF := va_free (wc := wc) hD hS hA isC hC
  refine va_calli (run (PX.give (hP.sub isC (pick_of_map hC)) hK (hD.sub isC hn hC) hN hX hS hF)) hS (fun q _ h => hF q h) hF ?_
  intro r u t H1 locs1 ht hvm hw hB hz hk1 hS1
  obtain ⟨hP1, hK1, hD1⟩ := hB
  rw [ht] at hP1
  obtain ⟨h1, h2⟩ := k_world (w1 := w1) (w2 := w2) hP hD hS hA isC isR hC hR hnr hdis perm hn2 hp2 hk1 hP1 hD1
  exact kk r u H1 locs1 hw h1 h2 hS1
end
/-- the world that a call on the law's script begins with -/
def PS (D : va_G) (tys : List (ClassId × FieldType)) (sz b L : Nat) (xs : AA) (U : State) : Prop := PW D tys sz [] U ∧ b < sz ∧ va_X b L xs U U.heap
theorem PS.blind {av : List Value} {D : va_G} {tys : List (ClassId × FieldType)} {sz b L : Nat} {xs : AA} : FrameBlind (va_Pc av (PS D tys sz b L xs)) := fun a U g mk q => by
  obtain ⟨q0, q1, q2, q3⟩ := q
  have h1 := PW.blind (av := av) (D := D) (tys := tys) (sz := sz) (w := []) a U g mk ⟨q0, q1⟩
  exact ⟨q0, h1.2, q2, va_X.moved (u := U) (Vm.Alike.refl U.vm) q3⟩
