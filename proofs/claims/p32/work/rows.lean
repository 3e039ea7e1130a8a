section
-- ===== PART A: goes FIRST, ahead of the names: the tables' words, and 'selects' of the private methods out of them =====
/-- a private method of a class that the tables say can be made, by its rows of tables_1 -/
def lw_okq (q : MethodName × Nat) : Prop := (q.1.cls ≠ "java/lang/invoke/MethodHandle" ∧ q.1.cls ≠ "java/lang/invoke/VarHandle") ∧ Cond.instantiable q.1.cls q.2 ∈ tables_1 ∧ Cond.privateMethod q.1 ∈ tables_1 ∧ Cond.instanceMethod q.1 ∈ tables_1
theorem lw_p0 : lw_okq (⟨"java/lang/Throwable", "fillInStackTrace", "(I)Ljava/lang/Throwable;"⟩, 6) := ⟨⟨by decide +kernel, by decide +kernel⟩, List.mem_of_getElem? (i := 167) (by decide +kernel), List.mem_of_getElem? (i := 165) (by decide +kernel), List.mem_of_getElem? (i := 166) (by decide +kernel)⟩
theorem lw_p1 : lw_okq (⟨"Alarmgrove$Graph", "followAll", "()V"⟩, 4) := ⟨⟨by decide +kernel, by decide +kernel⟩, List.mem_of_getElem? (i := 23) (by decide +kernel), List.mem_of_getElem? (i := 229) (by decide +kernel), List.mem_of_getElem? (i := 230) (by decide +kernel)⟩
theorem lw_p2 : lw_okq (⟨"Alarmgrove", "checkChange", "(Z)V"⟩, 5) := ⟨⟨by decide +kernel, by decide +kernel⟩, List.mem_of_getElem? (i := 15) (by decide +kernel), List.mem_of_getElem? (i := 287) (by decide +kernel), List.mem_of_getElem? (i := 288) (by decide +kernel)⟩
theorem lw_p3 : lw_okq (⟨"Alarmgrove$Log", "add", "(IIII)V"⟩, 6) := ⟨⟨by decide +kernel, by decide +kernel⟩, List.mem_of_getElem? (i := 43) (by decide +kernel), List.mem_of_getElem? (i := 315) (by decide +kernel), List.mem_of_getElem? (i := 316) (by decide +kernel)⟩
theorem lw_p4 : lw_okq (⟨"Alarmgrove$Tickets", "unite", "(I)I"⟩, 3) := ⟨⟨by decide +kernel, by decide +kernel⟩, List.mem_of_getElem? (i := 68) (by decide +kernel), List.mem_of_getElem? (i := 327) (by decide +kernel), List.mem_of_getElem? (i := 328) (by decide +kernel)⟩
theorem lw_p5 : lw_okq (⟨"Alarmgrove$Tickets", "merge", "(II)V"⟩, 3) := ⟨⟨by decide +kernel, by decide +kernel⟩, List.mem_of_getElem? (i := 68) (by decide +kernel), List.mem_of_getElem? (i := 335) (by decide +kernel), List.mem_of_getElem? (i := 336) (by decide +kernel)⟩
theorem lw_p6 : lw_okq (⟨"Alarmgrove$Tickets", "isUsed", "(I)Z"⟩, 3) := ⟨⟨by decide +kernel, by decide +kernel⟩, List.mem_of_getElem? (i := 68) (by decide +kernel), List.mem_of_getElem? (i := 339) (by decide +kernel), List.mem_of_getElem? (i := 340) (by decide +kernel)⟩
theorem lw_p7 : lw_okq (⟨"Alarmgrove", "diagnoser", "()LAlarmgrove$Diagnoser;"⟩, 5) := ⟨⟨by decide +kernel, by decide +kernel⟩, List.mem_of_getElem? (i := 15) (by decide +kernel), List.mem_of_getElem? (i := 397) (by decide +kernel), List.mem_of_getElem? (i := 398) (by decide +kernel)⟩
theorem lw_p8 : lw_okq (⟨"Alarmgrove$Diagnoser", "isBetter", "(II)Z"⟩, 3) := ⟨⟨by decide +kernel, by decide +kernel⟩, List.mem_of_getElem? (i := 401) (by decide +kernel), List.mem_of_getElem? (i := 443) (by decide +kernel), List.mem_of_getElem? (i := 444) (by decide +kernel)⟩
theorem lw_p9 : lw_okq (⟨"Alarmgrove$Diagnoser", "explainsAll", "(I)Z"⟩, 3) := ⟨⟨by decide +kernel, by decide +kernel⟩, List.mem_of_getElem? (i := 401) (by decide +kernel), List.mem_of_getElem? (i := 486) (by decide +kernel), List.mem_of_getElem? (i := 487) (by decide +kernel)⟩
theorem lw_p10 : lw_okq (⟨"Alarmgrove$Diagnoser", "greedyNext", "(I)I"⟩, 3) := ⟨⟨by decide +kernel, by decide +kernel⟩, List.mem_of_getElem? (i := 401) (by decide +kernel), List.mem_of_getElem? (i := 507) (by decide +kernel), List.mem_of_getElem? (i := 508) (by decide +kernel)⟩
def lw_privs_1 : List (MethodName × Nat) := [(⟨"java/lang/Throwable", "fillInStackTrace", "(I)Ljava/lang/Throwable;"⟩, 6), (⟨"Alarmgrove$Graph", "followAll", "()V"⟩, 4), (⟨"Alarmgrove", "checkChange", "(Z)V"⟩, 5), (⟨"Alarmgrove$Log", "add", "(IIII)V"⟩, 6), (⟨"Alarmgrove$Tickets", "unite", "(I)I"⟩, 3), (⟨"Alarmgrove$Tickets", "merge", "(II)V"⟩, 3), (⟨"Alarmgrove$Tickets", "isUsed", "(I)Z"⟩, 3), (⟨"Alarmgrove", "diagnoser", "()LAlarmgrove$Diagnoser;"⟩, 5), (⟨"Alarmgrove$Diagnoser", "isBetter", "(II)Z"⟩, 3), (⟨"Alarmgrove$Diagnoser", "explainsAll", "(I)Z"⟩, 3), (⟨"Alarmgrove$Diagnoser", "greedyNext", "(I)I"⟩, 3)]
theorem lw_r1 : ∀ q ∈ lw_privs_1, lw_okq q := List.forall_mem_cons.mpr ⟨lw_p0, List.forall_mem_cons.mpr ⟨lw_p1, List.forall_mem_cons.mpr ⟨lw_p2, List.forall_mem_cons.mpr ⟨lw_p3, List.forall_mem_cons.mpr ⟨lw_p4, List.forall_mem_cons.mpr ⟨lw_p5, List.forall_mem_cons.mpr ⟨lw_p6, List.forall_mem_cons.mpr ⟨lw_p7, List.forall_mem_cons.mpr ⟨lw_p8, List.forall_mem_cons.mpr ⟨lw_p9, List.forall_mem_cons.mpr ⟨lw_p10, fun _ h => absurd h List.not_mem_nil⟩⟩⟩⟩⟩⟩⟩⟩⟩⟩⟩
def lw_privs : List (MethodName × Nat) := lw_privs_1
def lw_tbl : List Cond := k2_sels lw_privs ++ tables_1
theorem lw_privs_ok : ∀ q ∈ lw_privs, lw_okq q := lw_r1
/-! ===== BEGIN words of one list among another's, by their places ===== -/
theorem goodIn_r {big : List Cond} (ws : List Cond) (ps : List Nat) (hp : ws = ps.filterMap (fun i => big[i]?)) (h : ws.all goodWord = true) : GoodIn big ws := by
  intro w hw
  have h1 := List.all_eq_true.mp h w hw
  rw [hp] at hw
  obtain ⟨i, -, hi⟩ := List.mem_filterMap.mp hw
  have hm : w ∈ big := by first | exact List.mem_of_getElem? hi | exact List.getElem?_mem hi
  exact ⟨hm, good_of_word h1⟩
theorem goodIn_app {big a b : List Cond} (ha : GoodIn big a) (hb : GoodIn big b) : GoodIn big (a ++ b) := fun w h => (List.mem_append.mp h).elim (ha w) (hb w)
theorem goodIn_ca {big a b : List Cond} {c : Cond} (ha : GoodIn big (c :: a)) (hb : GoodIn big b) : GoodIn big (c :: (a ++ b)) := fun w h => (List.mem_cons.mp h).elim (fun e => ha w (List.mem_cons.mpr (Or.inl e))) (fun h => (List.mem_append.mp h).elim (fun h => ha w (List.mem_cons.mpr (Or.inr h))) (hb w))
theorem goodIn_sub {big ws : List Cond} (hm : ∀ w ∈ ws, w ∈ big) (h : ws.all goodWord = true) : GoodIn big ws := fun w hw => ⟨hm w hw, good_of_word (List.all_eq_true.mp h w hw)⟩
/-! ===== END ===== -/

/-! ===== BEGIN exceptions that leave a method, and their catching by the caller (launches without stack traces) ===== -/
section VXA
/-! The laws vx_back, vx_callV, vx_callS, vx_callSW, vx_throw0, vx_throwS follow proofs of the library, with one case more: JvmDerived/Free/Laws.lean (Back.of_free), Shelf42/LK1.lean (callV, callS), Shelf/KitTraced.lean (throwNew0V, throwNewS). -/
/-- where a method has thrown q: the class by its name, the cell, what was written, the world -/
def vx_T (XC : String → State → State → Prop) (st : State) (q : Addr) (t : State) (mc ms : Nat) (free : Addr → Prop) : Prop :=
  ∃ (E : String) (ce : Cell) (L : List Loc), XC E st t ∧ t.heap[q]? = some ce ∧ ce.vm = .none ∧ st.vm.findClass E = some ce.cls ∧ st.WarmedH t.vm ∧ st.sameButNew ({ t with vm := st.vm } : State) L mc ms ∧ ∀ z ∈ L, free z.base
def vx_Q (Qc : Array Value → State → Outcome → State → Prop) (XC : String → State → State → Prop) (mc ms : Nat) (free : Addr → Prop) : Array Value → State → Outcome → State → Prop := fun a st o t =>
  (Qc a st o t ∧ ∃ L, FrameEnd st o t L mc ms ∧ ∀ q ∈ L, free q.base) ∨ ∃ q, o = .threw q ∧ vx_T XC st q t mc ms free
/-- a callee that returns or throws -/
def vx_Met (l : Launch) (y : MethodName) (ws : List Cond) (rm : Room) (Pc : Array Value → State → Prop) (Qc : Array Value → State → Outcome → State → Prop) (XC : String → State → State → Prop) (mc ms : Nat) (free : Addr → Prop) : Prop :=
  MetFree l y (headSpec ws rm) Pc (fun _ _ _ _ _ => True) (vx_Q Qc XC mc ms free)
def vx_Post (XC : String → State → State → Prop) (mc ms : Nat) (free : Addr → Prop) : Pt → Array Value → Addr → Pt → Prop := fun A a q B =>
  ∃ (g : JFrame) (mk : MethodId) (t : State) (L : List Loc) (E : String) (ce : Cell), B.U.heap = t.heap ∧ B.U.vm = t.vm ∧ XC E (A.U.calling g mk a) t ∧ t.heap[q]? = some ce ∧ ce.vm = .none ∧ A.U.vm.findClass E = some ce.cls ∧ B.locs = A.locs ++ L ∧ (∀ z ∈ L, free z.base) ∧ B.cells = A.cells + mc ∧ B.slots = A.slots + ms
def vx_Back (l : Launch) (R : Room) (p : Program) (e : Env) (below : List Frame) (s : State) (sargs : Array Value) (y : MethodName) (len W9 : Nat)
    (Pre : Pt → Array Value → Prop) (Post : Pt → Array Value → Option Value → Pt → Prop) (PostX : Pt → Array Value → Addr → Pt → Prop) : Prop :=
  ∀ (m : MethodId) (meth : Method) (c : Code) (A : Pt) (g : JFrame) (ig : Instr) (mk : MethodId) (a : Array Value),
    Stand p l e R s m sargs below meth c A.U A.locs A.cells A.slots → g.method = m → g.locals.size = c.maxLocals → decode c.code g.pc = .ok (ig, len) →
    2 * g.monitorRoom + (g.stack.map fun v => v.category).sum ≤ W9 → A.U.methodNamed? y = some mk → Pre A a →
    (∃ (v : Option Value) (B : Pt), Stand p l e R s m sargs below meth c B.U B.locs B.cells B.slots ∧ Post A a v B ∧
      Steps p.tables e below (doInvoke e (A.U.setTop g) [] mk a).1 (B.U.setTop { g with pc := g.pc + len, stack := v.toList ++ g.stack })) ∨
    (∃ (q : Addr) (B : Pt), Stand p l e R s m sargs below meth c B.U B.locs B.cells B.slots ∧ PostX A a q B ∧
      Steps p.tables e below (doInvoke e (A.U.setTop g) [] mk a).1 ((B.U.setTop g).pushFrame (.throwing q)))
section Payer
variable {l : Launch} {R : Room} {p : Program} {e : Env} {below : List Frame} {s : State} {sargs : Array Value} {y : MethodName} {len W9 : Nat}
theorem vx_back {ws : List Cond} {rm : Room} {Pc : Array Value → State → Prop} {Qc : Array Value → State → Outcome → State → Prop} {XC : String → State → State → Prop} {mc ms : Nat} {free : Addr → Prop} {bytes : ByteArray} {maxL : Nat} {ret : Option FieldType}
    (hM : vx_Met l y ws rm Pc Qc XC mc ms free) (hblind : FrameBlind Pc) (hrc : rm.cells = mc) (hrs : rm.slots = ms)
    (hframes : rm.frames + 1 ≤ R.frames) (hlocals : W9 + (maxL + 11) + rm.locals ≤ R.locals)
    (hws : ∀ w ∈ ws, ∀ a' U, s.WarmedH U.vm → w.before a' U = true) (hcode : Cond.code y bytes maxL ret ∈ ws) (hinit : ∀ a' U, s.WarmedH U.vm → (Cond.initialized y.cls).before a' U = true) :
    vx_Back l R p e below s sargs y len W9 (PreOf R mc ms Pc) (PostOf Qc mc ms free) (vx_Post XC mc ms free) := by
  intro m meth c A g ig mk a X hg hsize hdg hW hn hp
  have h1 : (headSpec ws rm).pre.before a A.U = true := atoms_intro fun w hw => hws w hw _ _ X.warmed
  have h2 : (Cond.code y bytes maxL ret).before a A.U = true := hws _ hcode _ _ X.warmed
  have h3 : (Cond.initialized y.cls).before a A.U = true := hinit _ _ X.warmed
  have h4 : A.cells + (headSpec ws rm).room.cells ≤ R.cells := by rw [show (headSpec ws rm).room.cells = mc from hrc]; exact hp.1
  have h5 : A.slots + (headSpec ws rm).room.slots ≤ R.slots := by rw [show (headSpec ws rm).room.slots = ms from hrs]; exact hp.2.1
  have hPc : Pc a (A.U.calling g mk a) := hblind _ _ _ _ hp.2.2
  obtain ⟨U, Ls, c0, s0⟩ := A
  dsimp only [Pt.U, Pt.locs, Pt.cells, Pt.slots] at h1 h2 h3 h4 h5 X hn hPc ⊢
  obtain ⟨methY, cY, hmY, hcY, -, hlY, -, -, -, -⟩ := Cond.code_spec hn h2
  obtain ⟨kY, hkY, -⟩ := className_of_methodNamed hn
  have hinitY : kY.init = .initialized := Cond.initialized_spec (findClass_of_methodNamed hn) hkY h3
  have h : At U g.method c below := by rw [hg]; exact X.here
  have hlocals9 : W9 + (maxL + 11) + (headSpec ws rm).room.locals ≤ R.locals := hlocals
  have happ : (headSpec ws rm).appliesLoose y e.platform (U.calling g mk a) = true :=
    Spec.appliesLoose_calling (g := g) h hdg hn hkY hinitY
      (X.room_calling (g := g) (R' := (headSpec ws rm).room) hsize hmY hcY hframes (by rw [hlY]; omega) h4 h5) h1
  obtain ⟨mid, hmid⟩ := h.above
  have hfr : (U.setTop g).frames = (.java g :: mid) ++ below := by rw [State.frames_setTop' g h.top, hmid]; rfl
  obtain ⟨o, s₂, hsteps, -, hend, hq⟩ := Steps.callFree hM p X.admits X.cas X.clock (acts := []) hfr happ hPc trivial
  have hq' : vx_Q Qc XC mc ms free a (U.calling g mk a) o s₂ := hq
  rw [State.frames_setTop' g h.top] at hend
  obtain ⟨g₀, hg0⟩ := Option.isSome_iff_exists.mp h.top
  obtain ⟨r, hr⟩ := State.topJava?_eq_some.mp hg0
  have hr' : (({ U with heap := s₂.heap, slotsUsed := s₂.slotsUsed } : State).setVm s₂.vm).frames = .java g₀ :: r := hr
  rcases hq' with ⟨hqc, L, hfe, hL⟩ | ⟨q, rfl, E, ce, L, hx, hce, hcv, hcl, hW₂, hsm, hL⟩
  · obtain ⟨⟨v, rfl⟩, hW₂, e2, q2, q3, q4, q5, q6⟩ := id hfe
    have e3 : s₂ = ({ (U.calling g mk a).setFrames s₂.frames with heap := s₂.heap, slotsUsed := s₂.slotsUsed } : State).setVm s₂.vm := by
      have : s₂ = ({ s₂ with vm := (U.calling g mk a).vm } : State).setVm s₂.vm := rfl
      rw [e2] at this
      exact this
    obtain ⟨c₂, i₂, len₂, hc₂, hd₂, hf₂⟩ := hend
    have hW' : U.WarmedH s₂.vm := hW₂
    have hcc : c₂ = c := by
      have h1 : s₂.code? g.method = U.code? g.method := by
        rw [State.code?_eq, State.code?_eq, hW'.alike.method?]
      exact Option.some.inj (hc₂.symm.trans (h1.trans h.code))
    subst hcc
    have hlen : len₂ = len := by rw [hdg] at hd₂; cases hd₂; rfl
    subst hlen
    have hs₂ : s₂ = (({ U with heap := s₂.heap, slotsUsed := s₂.slotsUsed } : State).setVm s₂.vm).setTop { g with pc := g.pc + len₂, stack := v.toList ++ g.stack } := by
      refine e3.trans ?_
      rw [hf₂, State.calling_eq h.top, State.setFrames_setFrames, State.setTop_of_frames _ hr', hr]
      rfl
    have hsame : U.sameButNew ({ U with heap := s₂.heap, slotsUsed := s₂.slotsUsed } : State) L mc ms := by
      refine ⟨?_, q2, q3, q4, q5, q6⟩
      obtain ⟨t, ht, -⟩ := State.frames_cons hr
      show ({ U with heap := s₂.heap, slotsUsed := s₂.slotsUsed } : State) = { U.setFrames U.frames with heap := s₂.heap, slotsUsed := s₂.slotsUsed }
      rw [State.setFrames_self ht]
    subst hg
    refine Or.inl ⟨v, ⟨(({ U with heap := s₂.heap, slotsUsed := s₂.slotsUsed } : State).setVm s₂.vm), Ls ++ L, c0 + mc, s0 + ms⟩,
      ⟨X.admits, X.cas, X.clock, X.frames, X.room, X.hears, X.method, X.code, (X.here.setHeapUsed s₂.heap s₂.slotsUsed).setVm hW'.alike, X.tail, State.WarmedH.trans X.warmed hW', X.limits, X.bytes, X.same.trans (hsame.setVm s.vm)⟩,
      ⟨g, mk, s₂, L, rfl, rfl, hqc, rfl, hL, rfl, rfl⟩, ?_⟩
    show Steps p.tables e below _ ((({ U with heap := s₂.heap, slotsUsed := s₂.slotsUsed } : State).setVm s₂.vm).setTop { g with pc := g.pc + len₂, stack := v.toList ++ g.stack })
    rw [← hs₂]
    exact hsteps
  · obtain ⟨e2, q2, q3, q4, q5, q6⟩ := id hsm
    have e3 : s₂ = ({ (U.calling g mk a).setFrames s₂.frames with heap := s₂.heap, slotsUsed := s₂.slotsUsed } : State).setVm s₂.vm := by
      have : s₂ = ({ s₂ with vm := (U.calling g mk a).vm } : State).setVm s₂.vm := rfl
      rw [e2] at this
      exact this
    have hf₂ : s₂.frames = .throwing q :: .java g :: U.frames.tail := hend
    have hW' : U.WarmedH s₂.vm := hW₂
    have hs₂ : s₂ = ((({ U with heap := s₂.heap, slotsUsed := s₂.slotsUsed } : State).setVm s₂.vm).setTop g).pushFrame (.throwing q) := by
      refine e3.trans ?_
      rw [hf₂, State.calling_eq h.top, State.setFrames_setFrames, State.pushFrame, State.frames_setTop _ hr', State.setTop_of_frames _ hr', State.setFrames_setFrames, hr]
      rfl
    have hsame : U.sameButNew ({ U with heap := s₂.heap, slotsUsed := s₂.slotsUsed } : State) L mc ms := by
      refine ⟨?_, q2, q3, q4, q5, q6⟩
      obtain ⟨t, ht, -⟩ := State.frames_cons hr
      show ({ U with heap := s₂.heap, slotsUsed := s₂.slotsUsed } : State) = { U.setFrames U.frames with heap := s₂.heap, slotsUsed := s₂.slotsUsed }
      rw [State.setFrames_self ht]
    subst hg
    refine Or.inr ⟨q, ⟨(({ U with heap := s₂.heap, slotsUsed := s₂.slotsUsed } : State).setVm s₂.vm), Ls ++ L, c0 + mc, s0 + ms⟩,
      ⟨X.admits, X.cas, X.clock, X.frames, X.room, X.hears, X.method, X.code, (X.here.setHeapUsed s₂.heap s₂.slotsUsed).setVm hW'.alike, X.tail, State.WarmedH.trans X.warmed hW', X.limits, X.bytes, X.same.trans (hsame.setVm s.vm)⟩,
      ⟨g, mk, s₂, L, E, ce, rfl, rfl, hx, hce, hcv, hcl, rfl, hL, rfl, rfl⟩, ?_⟩
    show Steps p.tables e below _ (((({ U with heap := s₂.heap, slotsUsed := s₂.slotsUsed } : State).setVm s₂.vm).setTop g).pushFrame (.throwing q))
    rw [← hs₂]
    exact hsteps
end Payer
section Calls
variable {p : Program} {l : Launch} {e : Env} {R : Room} {s : State} {m : MethodId} {args : Array Value} {below : List Frame} {meth : Method} {c : Code} {T : State} {locs : List Loc} {cells slots : Nat}
theorem vx_callV (X : Stand p l e R s m args below meth c T locs cells slots) (hexec : p.tables.exec = Jvm.exec) {own C : String} {index : Nat} {y : MethodName} {bytes : ByteArray} {maxL : Nat} {ret : Option FieldType}
    (hown : s.vm.findClass own = some m.cls) (hlink : (Cond.methodLink own index y).before args s = true) (hinst : (Cond.instanceMethod y).before args s = true) (hsel : (Cond.selects C y y).before args s = true)
    (hcode : (Cond.code y bytes maxL ret).before args s = true) (hy : y.cls ≠ "java/lang/invoke/MethodHandle" ∧ y.cls ≠ "java/lang/invoke/VarHandle")
    {W9 : Nat} {Pre : Pt → Array Value → Prop} {Post : Pt → Array Value → Option Value → Pt → Prop} {PostX : Pt → Array Value → Addr → Pt → Prop} (hK : vx_Back l R p e below s args y 3 W9 Pre Post PostX)
    {b : Addr} {cellB : Cell} (hcell : T.heap[b]? = some cellB) (hobj : cellB.vm.isStatics = false) (hcls : s.vm.findClass C = some cellB.cls)
    {g : JFrame} (hg : g.method = m) (hsize : g.locals.size = c.maxLocals) {argsL rest : List Value} (hlen : ∀ sig, parseMethodDescriptor y.desc = some sig → argsL.length = sig.parameters.length)
    (hstack : g.stack = argsL.reverse ++ .ref b :: rest) (hW : 2 * g.monitorRoom + (rest.map fun v => v.category).sum ≤ W9) (hdg : decode c.code g.pc = .ok (.invokevirtual index, 3))
    (hpre : ∀ vm₁, s.WarmedH vm₁ → Pre ⟨T.setVm vm₁, locs, cells, slots⟩ (Value.ref b :: argsL).toArray) :
    (∃ (v : Option Value) (vm₁ : Vm) (B : Pt), s.WarmedH vm₁ ∧ Stand p l e R s m args below meth c B.U B.locs B.cells B.slots ∧ Post ⟨T.setVm vm₁, locs, cells, slots⟩ (Value.ref b :: argsL).toArray v B ∧
      ∀ target, Steps p.tables e below (B.U.setTop { g with pc := g.pc + 3, stack := v.toList ++ rest }) target → Steps p.tables e below (T.setTop g) target) ∨
    (∃ (q : Addr) (vm₁ : Vm) (B : Pt), s.WarmedH vm₁ ∧ Stand p l e R s m args below meth c B.U B.locs B.cells B.slots ∧ PostX ⟨T.setVm vm₁, locs, cells, slots⟩ (Value.ref b :: argsL).toArray q B ∧
      Steps p.tables e below (T.setTop g) ((B.U.setTop { g with stack := rest }).pushFrame (.throwing q))) := by
  obtain ⟨mk, methM, hnamed, hmethM, hstM, habM⟩ := Cond.instanceMethod_spec hinst
  obtain ⟨methM', cM, hmethM', -, -, -, -, -, -, hsigM⟩ := Cond.code_spec hnamed hcode
  cases hmethM.symm.trans hmethM'
  obtain ⟨c2, r2, m2, q1, q2, q3, q4, kP, hkP, hkPi⟩ := Cond.selects_spec hsel
  cases hcls.symm.trans q1
  cases (State.methodFound?_of_named hnamed hy).symm.trans q2
  cases hnamed.symm.trans q3
  have hselP : selectMethod e.platform s.vm cellB.cls mk = .method mk := by rw [Launch.admits_selectMethod X.admits]; exact q4
  obtain ⟨vm₁, X₁, hstep₁⟩ := X.invokevirtual hexec hown hlink hnamed hmethM hstM hkP hkPi hy (a := b) (cell := cellB) hcell
    (fun z h => by rw [h] at hobj; cases hobj) hselP hmethM habM hkP hkPi (g := g) hg (argsL := argsL) (rest := rest) (hlen _ hsigM) hstack hdg
  rcases hK m meth c ⟨T.setVm vm₁, locs, cells, slots⟩ { g with stack := rest } (.invokevirtual index) mk (Value.ref b :: argsL).toArray X₁ hg hsize hdg hW (X₁.named hnamed) (hpre vm₁ X₁.warmed) with ⟨v, B, X', hpost, hsteps⟩ | ⟨q, B, X', hpost, hsteps⟩
  · exact Or.inl ⟨v, vm₁, B, X₁.warmed, X', hpost, fun target h => hstep₁ _ fun acts => by rw [doInvoke_state]; exact hsteps.trans h⟩
  · exact Or.inr ⟨q, vm₁, B, X₁.warmed, X', hpost, hstep₁ _ fun acts => by rw [doInvoke_state]; exact hsteps⟩
theorem vx_callS (X : Stand p l e R s m args below meth c T locs cells slots) (hexec : p.tables.exec = Jvm.exec) {own : String} {index : Nat} {y : MethodName} {bytes : ByteArray} {maxL : Nat} {ret : Option FieldType}
    (hown : s.vm.findClass own = some m.cls) (hlink : (Cond.methodLink own index y).before args s = true) (hstat : (Cond.static y).before args s = true) (hinit : (Cond.initialized y.cls).before args s = true)
    (hcode : (Cond.code y bytes maxL ret).before args s = true) (hy : y.cls ≠ "java/lang/invoke/MethodHandle" ∧ y.cls ≠ "java/lang/invoke/VarHandle")
    {W9 : Nat} {Pre : Pt → Array Value → Prop} {Post : Pt → Array Value → Option Value → Pt → Prop} {PostX : Pt → Array Value → Addr → Pt → Prop} (hK : vx_Back l R p e below s args y 3 W9 Pre Post PostX)
    {g : JFrame} (hg : g.method = m) (hsize : g.locals.size = c.maxLocals) {argsL rest : List Value} (hlen : ∀ sig, parseMethodDescriptor y.desc = some sig → argsL.length = sig.parameters.length)
    (hstack : g.stack = argsL.reverse ++ rest) (hW : 2 * g.monitorRoom + (rest.map fun v => v.category).sum ≤ W9) (hdg : decode c.code g.pc = .ok (.invokestatic index, 3))
    (hpre : ∀ vm₁, s.WarmedH vm₁ → Pre ⟨T.setVm vm₁, locs, cells, slots⟩ argsL.toArray) :
    (∃ (v : Option Value) (vm₁ : Vm) (B : Pt), s.WarmedH vm₁ ∧ Stand p l e R s m args below meth c B.U B.locs B.cells B.slots ∧ Post ⟨T.setVm vm₁, locs, cells, slots⟩ argsL.toArray v B ∧
      ∀ target, Steps p.tables e below (B.U.setTop { g with pc := g.pc + 3, stack := v.toList ++ rest }) target → Steps p.tables e below (T.setTop g) target) ∨
    (∃ (q : Addr) (vm₁ : Vm) (B : Pt), s.WarmedH vm₁ ∧ Stand p l e R s m args below meth c B.U B.locs B.cells B.slots ∧ PostX ⟨T.setVm vm₁, locs, cells, slots⟩ argsL.toArray q B ∧
      Steps p.tables e below (T.setTop g) ((B.U.setTop { g with stack := rest }).pushFrame (.throwing q))) := by
  obtain ⟨mk, hnamed⟩ := Cond.code_named hcode
  obtain ⟨methM, cM, hmethM, -, -, -, -, -, -, hsigM⟩ := Cond.code_spec hnamed hcode
  have hstatic : methM.isStatic = true := Cond.static_spec hnamed hmethM hstat
  obtain ⟨kP, hkP, -⟩ := className_of_methodNamed hnamed
  have hinitP : kP.init = .initialized := Cond.initialized_spec (findClass_of_methodNamed hnamed) hkP hinit
  obtain ⟨vm₁, X₁, hstep₁⟩ := X.invokestatic hexec hown hlink hnamed hmethM hstatic hkP hinitP hy (g := g) hg (argsL := argsL) (rest := rest) (hlen _ hsigM) hstack hdg
  rcases hK m meth c ⟨T.setVm vm₁, locs, cells, slots⟩ { g with stack := rest } (.invokestatic index) mk argsL.toArray X₁ hg hsize hdg hW (X₁.named hnamed) (hpre vm₁ X₁.warmed) with ⟨v, B, X', hpost, hsteps⟩ | ⟨q, B, X', hpost, hsteps⟩
  · exact Or.inl ⟨v, vm₁, B, X₁.warmed, X', hpost, fun target h => hstep₁ _ fun acts => by rw [doInvoke_state]; exact hsteps.trans h⟩
  · exact Or.inr ⟨q, vm₁, B, X₁.warmed, X', hpost, hstep₁ _ fun acts => by rw [doInvoke_state]; exact hsteps⟩
end Calls
theorem vx_cls {s : State} {T : State} {vm₁ : Vm} {E : String} {k : ClassId} (hW : s.WarmedH vm₁) (h : (T.setVm vm₁).vm.findClass E = some k) : s.vm.findClass E = some k := by
  have h1 : vm₁.findClass E = some k := h
  rw [hW.alike.findClass] at h1
  exact h1
/-- the method's frame g, with q thrown over it -/
def vx_W (p : Program) (l : Launch) (e : Env) (R : Room) (s : State) (m : MethodId) (args : Array Value) (below : List Frame) (meth : Method) (c : Code) (H : Heap) (locs : List Loc) (cells slots : Nat) (Q : State → Prop) (g : JFrame) (q : Addr) : Prop :=
  ∀ T : State, T.heap = H → Stand p l e R s m args below meth c T locs cells slots → ∃ t, Steps p.tables e below ((T.setTop g).pushFrame (.throwing q)) t ∧ Q t
def vx_Run (p : Program) (l : Launch) (e : Env) (R : Room) (s : State) (m : MethodId) (args : Array Value) (below : List Frame) (meth : Method) (c : Code) (H : Heap) (locs : List Loc) (cells slots mc ms : Nat) (g : JFrame) (rest : List Value) (Qa : State → Outcome → State → Prop) (XC : String → State → State → Prop) (free : Addr → Prop) : Prop :=
  ∀ T : State, T.heap = H → Stand p l e R s m args below meth c T locs cells slots →
    (∃ (v : Option Value) (st₀ t T' : State) (L : List Loc), st₀.heap = H ∧ Stand p l e R s m args below meth c T' (locs ++ L) (cells + mc) (slots + ms) ∧ (∀ q ∈ L, free q.base) ∧ T'.heap = t.heap ∧ T'.vm = t.vm ∧ Qa st₀ (.returned v) t ∧
      Goes p e below T g T' { g with pc := g.pc + 3, stack := v.toList ++ rest }) ∨
    (∃ (q : Addr) (st₀ t T' : State) (L : List Loc) (E : String) (ce : Cell), st₀.heap = H ∧ Stand p l e R s m args below meth c T' (locs ++ L) (cells + mc) (slots + ms) ∧ (∀ z ∈ L, free z.base) ∧ T'.heap = t.heap ∧ T'.vm = t.vm ∧ XC E st₀ t ∧ t.heap[q]? = some ce ∧ ce.vm = .none ∧ s.vm.findClass E = some ce.cls ∧
      Steps p.tables e below (T.setTop g) ((T'.setTop { g with stack := rest }).pushFrame (.throwing q)))
def vx_X {S : Type} (px : S → Prop) (B : String → S → State → Prop) (A : Nat → Prop) : String → State → State → Prop := fun E st t => ∃ u : S, px u ∧ B E u t ∧ va_F A st t
section Runs
variable {p : Program} {l : Launch} {e : Env} {R : Room} {s : State} {m : MethodId} {args : Array Value} {below : List Frame} {meth : Method} {c : Code} {H : Heap} {locs : List Loc} {cells slots : Nat}
variable {y : MethodName} {bytes cc : ByteArray} {maxL nL mc ms n index : Nat} {ret : Option FieldType} {ws : List Cond} {rm : Room} {Pc : Array Value → State → Prop} {Qc : Array Value → State → Outcome → State → Prop} {XC : String → State → State → Prop} {free : Addr → Prop} {Ts : List Cond} {own C : String} {b : Addr} {As rest : List Value} {g : JFrame}
theorem vx_callBack (cb : CallB R s args own index y bytes maxL ret ws rm mc ms n) (hM : vx_Met l y ws rm Pc Qc XC mc ms free) (hbl : FrameBlind Pc) : vx_Back l R p e below s args y 3 8 (PreOf R mc ms Pc) (PostOf Qc mc ms free) (vx_Post XC mc ms free) := by
  obtain ⟨hrc, hrs, hfr, hlo, hws, hcw, -, hini, -⟩ := cb
  exact vx_back (bytes := bytes) (maxL := maxL) (ret := ret) hM hbl hrc hrs hfr hlo hws hcw (fun a' U hW => word_at hW (Or.inl (by first | rfl | simp [Cond.onTables, Cond.keeps, Cond.steady])) hini)
theorem vx_runV (S : CallFix p m c cc nL s args Ts own) (hM : vx_Met l y ws rm Pc Qc XC mc ms free) (cw : CallW R s args own C index y bytes maxL ret ws rm mc ms n) (hp : PreV s H C b Pc As)
    (hg : g.method = m) (hn : As.length = n) (hsize : g.locals.size = nL) (hstack : g.stack = As.reverse ++ .ref b :: rest) (hW : 2 * g.monitorRoom + (rest.map fun v => v.category).sum ≤ 8) (hdg : decode cc g.pc = .ok (.invokevirtual index, 3)) (hf : cells + mc ≤ R.cells ∧ slots + ms ≤ R.slots) :
    vx_Run p l e R s m args below meth c H locs cells slots mc ms g rest (Qc (Value.ref b :: As).toArray) XC free := by
  have hK : vx_Back l R p e below s args y 3 8 (PreOf R mc ms Pc) (PostOf Qc mc ms free) (vx_Post XC mc ms free) := vx_callBack cw.1 hM hp.1
  obtain ⟨⟨-, -, -, -, -, -, hcode, -, hy, hlen, hl⟩, hin, hse⟩ := cw
  obtain ⟨hx, hb, hml, ho, -⟩ := S
  obtain ⟨-, ⟨cellB, hcB, hoB, hclB⟩, hPc⟩ := hp
  intro T hT X
  rcases vx_callV X hx (C := C) (bytes := bytes) (maxL := maxL) (ret := ret) ho hl hin hse hcode hy hK (by rw [hT]; exact hcB) hoB hclB hg (hsize.trans hml.symm) (argsL := As) (rest := rest) (fun sig h => hn.trans (hlen sig h)) hstack hW (by rw [hb]; exact hdg)
    (fun vm₁ hW₁ => ⟨hf.1, hf.2, hPc (T.setVm vm₁) hT hW₁⟩) with ⟨v, vm₁, ⟨U', l2, c2, s2⟩, hW₁, X', ⟨g', mk, t, L, e1, e2, hq, h1, hL, h2, h3⟩, st⟩ | ⟨q, vm₁, ⟨U', l2, c2, s2⟩, hW₁, X', ⟨g', mk, t, L, E, ce, e1, e2, hq, hce, hcv, hcl, h1, hL, h2, h3⟩, st⟩
  · dsimp only [Pt.U, Pt.locs, Pt.cells, Pt.slots] at X' e1 e2 h1 h2 h3 st
    subst h1; subst h2; subst h3
    exact Or.inl ⟨v, (T.setVm vm₁).calling g' mk (Value.ref b :: As).toArray, t, U', L, hT, X', hL, e1, e2, hq, st⟩
  · dsimp only [Pt.U, Pt.locs, Pt.cells, Pt.slots] at X' e1 e2 h1 h2 h3 st hcl
    subst h1; subst h2; subst h3
    exact Or.inr ⟨q, (T.setVm vm₁).calling g' mk (Value.ref b :: As).toArray, t, U', L, E, ce, hT, X', hL, e1, e2, hq, hce, hcv, vx_cls hW₁ hcl, st⟩
theorem vx_runS (S : CallFix p m c cc nL s args Ts own) (hM : vx_Met l y ws rm Pc Qc XC mc ms free) (cw : CallB R s args own index y bytes maxL ret ws rm mc ms n ∧ (Cond.static y).before args s = true) (hp : PreS s H Pc As)
    (hg : g.method = m) (hn : As.length = n) (hsize : g.locals.size = nL) (hstack : g.stack = As.reverse ++ rest) (hW : 2 * g.monitorRoom + (rest.map fun v => v.category).sum ≤ 8) (hdg : decode cc g.pc = .ok (.invokestatic index, 3)) (hf : cells + mc ≤ R.cells ∧ slots + ms ≤ R.slots) :
    vx_Run p l e R s m args below meth c H locs cells slots mc ms g rest (Qc As.toArray) XC free := by
  have hK : vx_Back l R p e below s args y 3 8 (PreOf R mc ms Pc) (PostOf Qc mc ms free) (vx_Post XC mc ms free) := vx_callBack cw.1 hM hp.1
  obtain ⟨⟨-, -, -, -, -, -, hcode, hini, hy, hlen, hl⟩, hstt⟩ := cw
  obtain ⟨hx, hb, hml, ho, -⟩ := S
  intro T hT X
  rcases vx_callS X hx (bytes := bytes) (maxL := maxL) (ret := ret) ho hl hstt hini hcode hy hK hg (hsize.trans hml.symm) (argsL := As) (rest := rest) (fun sig h => hn.trans (hlen sig h)) hstack hW (by rw [hb]; exact hdg)
    (fun vm₁ hW₁ => ⟨hf.1, hf.2, hp.2 (T.setVm vm₁) hT hW₁⟩) with ⟨v, vm₁, ⟨U', l2, c2, s2⟩, hW₁, X', ⟨g', mk, t, L, e1, e2, hq, h1, hL, h2, h3⟩, st⟩ | ⟨q, vm₁, ⟨U', l2, c2, s2⟩, hW₁, X', ⟨g', mk, t, L, E, ce, e1, e2, hq, hce, hcv, hcl, h1, hL, h2, h3⟩, st⟩
  · dsimp only [Pt.U, Pt.locs, Pt.cells, Pt.slots] at X' e1 e2 h1 h2 h3 st
    subst h1; subst h2; subst h3
    exact Or.inl ⟨v, (T.setVm vm₁).calling g' mk As.toArray, t, U', L, hT, X', hL, e1, e2, hq, st⟩
  · dsimp only [Pt.U, Pt.locs, Pt.cells, Pt.slots] at X' e1 e2 h1 h2 h3 st hcl
    subst h1; subst h2; subst h3
    exact Or.inr ⟨q, (T.setVm vm₁).calling g' mk As.toArray, t, U', L, E, ce, hT, X', hL, e1, e2, hq, hce, hcv, vx_cls hW₁ hcl, st⟩
end Runs
section Rows
variable {p : Program} {l : Launch} {e : Env} {R : Room} {s : State} {m : MethodId} {args : Array Value} {below : List Frame} {meth : Method} {c : Code} {H : Heap} {locs : List Loc} {cells slots : Nat} {Q : State → Prop}
variable {mc ms : Nat} {free : Addr → Prop} {A0 A1 : Nat → Prop} {H0 : Heap} {a : Array Value} {pc : Nat} {ls : Array Slot} {st0 rest : List Value}
theorem vx_keep {st₀ t T' : State} {L : List Loc} (h0 : st₀.heap = H) (e1 : T'.heap = t.heap) (hS : va_S A0 H0 H locs) (hA : ∀ q, q < H.size → A1 q → A0 q) (hf : ∀ q, free q → A0 q) (hL : ∀ q ∈ L, free q.base) (hF : va_F A1 st₀ t) :
    H.size ≤ T'.heap.size ∧ (∀ q : Nat, q < H.size → ¬ A1 q → T'.heap[q]? = H[q]?) ∧ va_S A0 H0 T'.heap (locs ++ L) := by
  obtain ⟨hz, hk⟩ := hF
  rw [h0] at hz hk
  exact ⟨by rw [e1]; exact hz, fun q h1 h2 => by rw [e1]; exact hk q h1 h2,
    ⟨Nat.le_trans hS.1 (by rw [e1]; exact hz), fun q h1 h2 => by rw [e1, hk q (Nat.lt_of_lt_of_le h1 hS.1) (fun z => h2 (hA q (Nat.lt_of_lt_of_le h1 hS.1) z))]; exact hS.2.1 q h1 h2, fun q hq => by
      rcases List.mem_append.mp hq with h | h
      · exact hS.2.2 q h
      · exact hf _ (hL q h)⟩⟩
theorem vx_calli {S SX : Type} {post : Int32 → S → Prop} {px : SX → Prop} {B : S → State → Prop} {BX : String → SX → State → Prop} {AX : Nat → Prop} (hr : vx_Run p l e R s m args below meth c H locs cells slots mc ms (F0 m pc ls st0) rest (va_Qi post B A1 a) (vx_X px BX AX) free) (hS : va_S A0 H0 H locs) (hA : ∀ q, q < H.size → A1 q → A0 q) (hf : ∀ q, free q → A0 q) (hAX : ∀ q, q < H.size → AX q → A0 q)
    (kx : ∀ (E : String) (ce : Cell) (q9 : Addr) (u : SX) (t : State) (H1 : Heap) (locs1 : List Loc), t.heap = H1 → s.vm.Alike t.vm → px u → BX E u t → H.size ≤ H1.size → (∀ q : Nat, q < H.size → ¬ AX q → H1[q]? = H[q]?) → va_S A0 H0 H1 locs1 → H1[q9]? = some ce → ce.vm = .none → s.vm.findClass E = some ce.cls → vx_W p l e R s m args below meth c H1 locs1 (cells + mc) (slots + ms) Q (F0 m pc ls rest) q9)
    (kk : ∀ (r : Int32) (u : S) (t : State) (H1 : Heap) (locs1 : List Loc), t.heap = H1 → s.vm.Alike t.vm → post r u → B u t → H.size ≤ H1.size → (∀ q : Nat, q < H.size → ¬ A1 q → H1[q]? = H[q]?) → va_S A0 H0 H1 locs1 → W p l e R s m args below meth c H1 locs1 (cells + mc) (slots + ms) Q (F0 m (pc + 3) ls (.int r :: rest))) : W p l e R s m args below meth c H locs cells slots Q (F0 m pc ls st0) := by
  intro T hT X
  rcases hr T hT X with ⟨v, st₀, t, T', L, h0, X', hL, e1, e2, ⟨⟨r, u, hv, hp, hb⟩, hF⟩, st⟩ | ⟨q, st₀, t, T', L, E, ce, h0, X', hL, e1, e2, ⟨u, hp, hb, hF⟩, hce, hcv, hcl, st⟩
  · cases hv
    obtain ⟨k1, k2, k3⟩ := vx_keep h0 e1 hS hA hf hL hF
    obtain ⟨t2, a1, b1⟩ := kk r u t T'.heap (locs ++ L) e1.symm (by rw [← e2]; exact X'.warmed.alike) hp hb k1 k2 k3 T' rfl X'
    exact ⟨t2, st t2 a1, b1⟩
  · obtain ⟨k1, k2, k3⟩ := vx_keep h0 e1 hS hAX hf hL hF
    obtain ⟨t2, a1, b1⟩ := kx E ce q u t T'.heap (locs ++ L) e1.symm (by rw [← e2]; exact X'.warmed.alike) hp hb k1 k2 k3 (by rw [e1]; exact hce) hcv hcl T' rfl X'
    exact ⟨t2, st.trans a1, b1⟩
theorem vx_calll {S SX : Type} {post : Int64 → S → Prop} {px : SX → Prop} {B : S → State → Prop} {BX : String → SX → State → Prop} {AX : Nat → Prop} (hr : vx_Run p l e R s m args below meth c H locs cells slots mc ms (F0 m pc ls st0) rest (va_Ql post B A1 a) (vx_X px BX AX) free) (hS : va_S A0 H0 H locs) (hA : ∀ q, q < H.size → A1 q → A0 q) (hf : ∀ q, free q → A0 q) (hAX : ∀ q, q < H.size → AX q → A0 q)
    (kx : ∀ (E : String) (ce : Cell) (q9 : Addr) (u : SX) (t : State) (H1 : Heap) (locs1 : List Loc), t.heap = H1 → s.vm.Alike t.vm → px u → BX E u t → H.size ≤ H1.size → (∀ q : Nat, q < H.size → ¬ AX q → H1[q]? = H[q]?) → va_S A0 H0 H1 locs1 → H1[q9]? = some ce → ce.vm = .none → s.vm.findClass E = some ce.cls → vx_W p l e R s m args below meth c H1 locs1 (cells + mc) (slots + ms) Q (F0 m pc ls rest) q9)
    (kk : ∀ (r : Int64) (u : S) (t : State) (H1 : Heap) (locs1 : List Loc), t.heap = H1 → s.vm.Alike t.vm → post r u → B u t → H.size ≤ H1.size → (∀ q : Nat, q < H.size → ¬ A1 q → H1[q]? = H[q]?) → va_S A0 H0 H1 locs1 → W p l e R s m args below meth c H1 locs1 (cells + mc) (slots + ms) Q (F0 m (pc + 3) ls (.long r :: rest))) : W p l e R s m args below meth c H locs cells slots Q (F0 m pc ls st0) := by
  intro T hT X
  rcases hr T hT X with ⟨v, st₀, t, T', L, h0, X', hL, e1, e2, ⟨⟨r, u, hv, hp, hb⟩, hF⟩, st⟩ | ⟨q, st₀, t, T', L, E, ce, h0, X', hL, e1, e2, ⟨u, hp, hb, hF⟩, hce, hcv, hcl, st⟩
  · cases hv
    obtain ⟨k1, k2, k3⟩ := vx_keep h0 e1 hS hA hf hL hF
    obtain ⟨t2, a1, b1⟩ := kk r u t T'.heap (locs ++ L) e1.symm (by rw [← e2]; exact X'.warmed.alike) hp hb k1 k2 k3 T' rfl X'
    exact ⟨t2, st t2 a1, b1⟩
  · obtain ⟨k1, k2, k3⟩ := vx_keep h0 e1 hS hAX hf hL hF
    obtain ⟨t2, a1, b1⟩ := kx E ce q u t T'.heap (locs ++ L) e1.symm (by rw [← e2]; exact X'.warmed.alike) hp hb k1 k2 k3 (by rw [e1]; exact hce) hcv hcl T' rfl X'
    exact ⟨t2, st.trans a1, b1⟩
theorem vx_callf {S SX : Type} {post : UInt32 → S → Prop} {px : SX → Prop} {B : S → State → Prop} {BX : String → SX → State → Prop} {AX : Nat → Prop} (hr : vx_Run p l e R s m args below meth c H locs cells slots mc ms (F0 m pc ls st0) rest (va_Qf post B A1 a) (vx_X px BX AX) free) (hS : va_S A0 H0 H locs) (hA : ∀ q, q < H.size → A1 q → A0 q) (hf : ∀ q, free q → A0 q) (hAX : ∀ q, q < H.size → AX q → A0 q)
    (kx : ∀ (E : String) (ce : Cell) (q9 : Addr) (u : SX) (t : State) (H1 : Heap) (locs1 : List Loc), t.heap = H1 → s.vm.Alike t.vm → px u → BX E u t → H.size ≤ H1.size → (∀ q : Nat, q < H.size → ¬ AX q → H1[q]? = H[q]?) → va_S A0 H0 H1 locs1 → H1[q9]? = some ce → ce.vm = .none → s.vm.findClass E = some ce.cls → vx_W p l e R s m args below meth c H1 locs1 (cells + mc) (slots + ms) Q (F0 m pc ls rest) q9)
    (kk : ∀ (r : UInt32) (u : S) (t : State) (H1 : Heap) (locs1 : List Loc), t.heap = H1 → s.vm.Alike t.vm → post r u → B u t → H.size ≤ H1.size → (∀ q : Nat, q < H.size → ¬ A1 q → H1[q]? = H[q]?) → va_S A0 H0 H1 locs1 → W p l e R s m args below meth c H1 locs1 (cells + mc) (slots + ms) Q (F0 m (pc + 3) ls (.float r :: rest))) : W p l e R s m args below meth c H locs cells slots Q (F0 m pc ls st0) := by
  intro T hT X
  rcases hr T hT X with ⟨v, st₀, t, T', L, h0, X', hL, e1, e2, ⟨⟨r, u, hv, hp, hb⟩, hF⟩, st⟩ | ⟨q, st₀, t, T', L, E, ce, h0, X', hL, e1, e2, ⟨u, hp, hb, hF⟩, hce, hcv, hcl, st⟩
  · cases hv
    obtain ⟨k1, k2, k3⟩ := vx_keep h0 e1 hS hA hf hL hF
    obtain ⟨t2, a1, b1⟩ := kk r u t T'.heap (locs ++ L) e1.symm (by rw [← e2]; exact X'.warmed.alike) hp hb k1 k2 k3 T' rfl X'
    exact ⟨t2, st t2 a1, b1⟩
  · obtain ⟨k1, k2, k3⟩ := vx_keep h0 e1 hS hAX hf hL hF
    obtain ⟨t2, a1, b1⟩ := kx E ce q u t T'.heap (locs ++ L) e1.symm (by rw [← e2]; exact X'.warmed.alike) hp hb k1 k2 k3 (by rw [e1]; exact hce) hcv hcl T' rfl X'
    exact ⟨t2, st.trans a1, b1⟩
theorem vx_calld {S SX : Type} {post : UInt64 → S → Prop} {px : SX → Prop} {B : S → State → Prop} {BX : String → SX → State → Prop} {AX : Nat → Prop} (hr : vx_Run p l e R s m args below meth c H locs cells slots mc ms (F0 m pc ls st0) rest (va_Qd post B A1 a) (vx_X px BX AX) free) (hS : va_S A0 H0 H locs) (hA : ∀ q, q < H.size → A1 q → A0 q) (hf : ∀ q, free q → A0 q) (hAX : ∀ q, q < H.size → AX q → A0 q)
    (kx : ∀ (E : String) (ce : Cell) (q9 : Addr) (u : SX) (t : State) (H1 : Heap) (locs1 : List Loc), t.heap = H1 → s.vm.Alike t.vm → px u → BX E u t → H.size ≤ H1.size → (∀ q : Nat, q < H.size → ¬ AX q → H1[q]? = H[q]?) → va_S A0 H0 H1 locs1 → H1[q9]? = some ce → ce.vm = .none → s.vm.findClass E = some ce.cls → vx_W p l e R s m args below meth c H1 locs1 (cells + mc) (slots + ms) Q (F0 m pc ls rest) q9)
    (kk : ∀ (r : UInt64) (u : S) (t : State) (H1 : Heap) (locs1 : List Loc), t.heap = H1 → s.vm.Alike t.vm → post r u → B u t → H.size ≤ H1.size → (∀ q : Nat, q < H.size → ¬ A1 q → H1[q]? = H[q]?) → va_S A0 H0 H1 locs1 → W p l e R s m args below meth c H1 locs1 (cells + mc) (slots + ms) Q (F0 m (pc + 3) ls (.double r :: rest))) : W p l e R s m args below meth c H locs cells slots Q (F0 m pc ls st0) := by
  intro T hT X
  rcases hr T hT X with ⟨v, st₀, t, T', L, h0, X', hL, e1, e2, ⟨⟨r, u, hv, hp, hb⟩, hF⟩, st⟩ | ⟨q, st₀, t, T', L, E, ce, h0, X', hL, e1, e2, ⟨u, hp, hb, hF⟩, hce, hcv, hcl, st⟩
  · cases hv
    obtain ⟨k1, k2, k3⟩ := vx_keep h0 e1 hS hA hf hL hF
    obtain ⟨t2, a1, b1⟩ := kk r u t T'.heap (locs ++ L) e1.symm (by rw [← e2]; exact X'.warmed.alike) hp hb k1 k2 k3 T' rfl X'
    exact ⟨t2, st t2 a1, b1⟩
  · obtain ⟨k1, k2, k3⟩ := vx_keep h0 e1 hS hAX hf hL hF
    obtain ⟨t2, a1, b1⟩ := kx E ce q u t T'.heap (locs ++ L) e1.symm (by rw [← e2]; exact X'.warmed.alike) hp hb k1 k2 k3 (by rw [e1]; exact hce) hcv hcl T' rfl X'
    exact ⟨t2, st.trans a1, b1⟩
theorem vx_callv {S SX : Type} {post : S → Prop} {px : SX → Prop} {B : S → State → Prop} {BX : String → SX → State → Prop} {AX : Nat → Prop} (hr : vx_Run p l e R s m args below meth c H locs cells slots mc ms (F0 m pc ls st0) rest (va_Qv post B A1 a) (vx_X px BX AX) free) (hS : va_S A0 H0 H locs) (hA : ∀ q, q < H.size → A1 q → A0 q) (hf : ∀ q, free q → A0 q) (hAX : ∀ q, q < H.size → AX q → A0 q)
    (kx : ∀ (E : String) (ce : Cell) (q9 : Addr) (u : SX) (t : State) (H1 : Heap) (locs1 : List Loc), t.heap = H1 → s.vm.Alike t.vm → px u → BX E u t → H.size ≤ H1.size → (∀ q : Nat, q < H.size → ¬ AX q → H1[q]? = H[q]?) → va_S A0 H0 H1 locs1 → H1[q9]? = some ce → ce.vm = .none → s.vm.findClass E = some ce.cls → vx_W p l e R s m args below meth c H1 locs1 (cells + mc) (slots + ms) Q (F0 m pc ls rest) q9)
    (kk : ∀ (u : S) (t : State) (H1 : Heap) (locs1 : List Loc), t.heap = H1 → s.vm.Alike t.vm → post u → B u t → H.size ≤ H1.size → (∀ q : Nat, q < H.size → ¬ A1 q → H1[q]? = H[q]?) → va_S A0 H0 H1 locs1 → W p l e R s m args below meth c H1 locs1 (cells + mc) (slots + ms) Q (F0 m (pc + 3) ls (rest))) : W p l e R s m args below meth c H locs cells slots Q (F0 m pc ls st0) := by
  intro T hT X
  rcases hr T hT X with ⟨v, st₀, t, T', L, h0, X', hL, e1, e2, ⟨⟨u, hv, hp, hb⟩, hF⟩, st⟩ | ⟨q, st₀, t, T', L, E, ce, h0, X', hL, e1, e2, ⟨u, hp, hb, hF⟩, hce, hcv, hcl, st⟩
  · cases hv
    obtain ⟨k1, k2, k3⟩ := vx_keep h0 e1 hS hA hf hL hF
    obtain ⟨t2, a1, b1⟩ := kk u t T'.heap (locs ++ L) e1.symm (by rw [← e2]; exact X'.warmed.alike) hp hb k1 k2 k3 T' rfl X'
    exact ⟨t2, st t2 a1, b1⟩
  · obtain ⟨k1, k2, k3⟩ := vx_keep h0 e1 hS hAX hf hL hF
    obtain ⟨t2, a1, b1⟩ := kx E ce q u t T'.heap (locs ++ L) e1.symm (by rw [← e2]; exact X'.warmed.alike) hp hb k1 k2 k3 (by rw [e1]; exact hce) hcv hcl T' rfl X'
    exact ⟨t2, st.trans a1, b1⟩
/-- caught by the row x of this method's table; the rows ahead don't take it -/
theorem vx_catch {own name : String} {E : String} {ce : Cell} {q : Addr} (hown : s.vm.findClass own = some m.cls) (pre : List ExceptionTableEntry) (x : ExceptionTableEntry) (suf : List ExceptionTableEntry) (hsplit : c.exceptionTable.toList = pre ++ x :: suf)
    (hpass : ∀ z ∈ pre, covers z pc = false ∨ (z.catchType ≠ 0 ∧ ∃ nm : String, (Cond.classLink own z.catchType nm).before args s = true ∧ va_Nc E nm s)) (hx : covers x pc = true) (h0 : x.catchType ≠ 0)
    (hlink : (Cond.classLink own x.catchType name).before args s = true) (hcast : (Cond.castable E name).before args s = true) (hcell : H[q]? = some ce) (hv : ce.vm = .none) (hcl : s.vm.findClass E = some ce.cls)
    (kk : W p l e R s m args below meth c H locs cells slots Q (F0 m x.handlerPc ls [.ref q])) : vx_W p l e R s m args below meth c H locs cells slots Q (F0 m pc ls rest) q := by
  intro T hT X
  have hpl : e.platform.magicAccessors = ({} : Platform).magicAccessors := by rw [X.admits.platform]
  obtain ⟨c3, c4, hc3, hc4, hasg⟩ := Cond.castable_spec hcast
  cases Option.some.inj (hc3.symm.trans hcl)
  obtain ⟨c5, hc5, hcl5⟩ := Cond.classLink_spec hown hlink e.platform hpl
  cases Option.some.inj (hc4.symm.trans hc5)
  obtain ⟨vm', X', st⟩ := X.thenCaughtThrough q (g := F0 m pc ls rest) rfl (Steps.refl _) (by rw [hT]; exact hcell) (by rw [hv]; rfl) (by obtain ⟨k9, h9, -⟩ := Vm.findClass_spec hcl; exact ⟨k9, h9⟩) pre x suf hsplit
    (fun z hz => by
      rcases hpass z hz with h | ⟨hz0, nm, hl1, hn1⟩
      · exact Or.inl h
      · obtain ⟨c6, hc6, hcl6⟩ := Cond.classLink_spec hown hl1 e.platform hpl
        obtain ⟨a8, b8, h1, h2, h3⟩ := hn1
        cases Option.some.inj (h1.symm.trans hcl)
        cases Option.some.inj (h2.symm.trans hc6)
        exact Or.inr ⟨hz0, _, hcl6, h3⟩) hx (Or.inr ⟨h0, c4, hcl5, hasg⟩)
  obtain ⟨t, a1, b1⟩ := kk (T.setVm vm') hT X'
  exact ⟨t, st.trans a1, b1⟩
end Rows
section Ends
variable {p : Program} {l : Launch} {e : Env} {R : Room} {s : State} {m : MethodId} {args : Array Value} {below : List Frame} {meth : Method} {c : Code} {H : Heap} {locs : List Loc} {cells slots : Nat} {Q : State → Prop}
variable {mc ms : Nat} {free : Addr → Prop} {A0 A1 : Nat → Prop} {H0 : Heap} {a : Array Value} {ls : Array Slot} {st0 rest : List Value}
variable {Qc : Array Value → State → Outcome → State → Prop} {XC : String → State → State → Prop}
/-- what a body that may throw owes at its end -/
def vx_MQ (below : List Frame) (Qc : Array Value → State → Outcome → State → Prop) (XC : String → State → State → Prop) (a : Array Value) (s : State) (mc ms : Nat) (free : Addr → Prop) : State → Prop := fun t =>
  ∃ o, t.status = .running ∧ Ended t below o ∧ vx_Q Qc XC mc ms free a s o t
theorem vx_ret {g : JFrame} {mc ms : Nat} (k : W p l e R s m args below meth c H locs cells slots (MQ below Qc args s mc ms free) g) : W p l e R s m args below meth c H locs cells slots (vx_MQ below Qc XC args s mc ms free) g := by
  intro T hT X
  obtain ⟨t, a1, o, b1, b2, b3, b4⟩ := k T hT X
  exact ⟨t, a1, o, b1, b2, Or.inl ⟨b3, b4⟩⟩
/-- not caught here: it goes on to the caller -/
theorem vx_widen {g : JFrame} {q : Addr} {k n : Nat} (h1 : cells ≤ k) (h2 : slots ≤ n) (kk : vx_W p l e R s m args below meth c H locs k n Q g q) : vx_W p l e R s m args below meth c H locs cells slots Q g q := fun T hT X => kk T hT (stand_widen X h1 h2)
theorem vx_out {pc : Nat} {E : String} {ce : Cell} {q : Addr} {mc ms : Nat} (hout : ∀ x ∈ c.exceptionTable.toList, covers x pc = false) (hlocks : meth.locks = false) (hcell : H[q]? = some ce) (hv : ce.vm = .none) (hcl : s.vm.findClass E = some ce.cls)
    (hx : ∀ t : State, t.heap = H → s.vm.Alike t.vm → XC E s t) (hf : ∀ z ∈ locs, free z.base) (hc : cells ≤ mc) (hs : slots ≤ ms) :
    vx_W p l e R s m args below meth c H locs cells slots (vx_MQ below Qc XC args s mc ms free) (F0 m pc ls rest) q := by
  intro T hT X
  obtain ⟨st1, hrun, hend, hW, hsm⟩ := X.leaveThrown q (g := F0 m pc ls rest) rfl rfl rfl hout hlocks
  have hcell9 : (T.setFrames (.throwing q :: below)).heap[q]? = some ce := by
    show T.heap[q]? = some ce
    rw [hT]; exact hcell
  exact ⟨_, st1, .threw q, hrun, hend, Or.inr ⟨q, rfl, E, ce, locs, hx _ hT hW.alike, hcell9, hv, hcl, hW, hsm.mono hc hs, hf⟩⟩
theorem vx_frame {U : State} {k n : Nat} (h : s.sameButNew ({ U with vm := s.vm } : State) locs k n) : s.heap.size ≤ U.heap.size ∧ ∀ q : Nat, q < s.heap.size → (∀ z ∈ locs, z.base ≠ q) → U.heap[q]? = s.heap[q]? := by
  obtain ⟨-, h2, -, -, -, h6⟩ := h
  refine ⟨h2, fun q hq hz => ?_⟩
  obtain ⟨c9, e1, e2, e3, e4⟩ := h6 q _ (Array.getElem?_eq_getElem hq)
  have hs : c9.slots = (s.heap[q]).slots := Array.ext_getElem? fun i => e4 i fun hm => hz _ hm rfl
  have h9 : c9 = s.heap[q] := by
    rw [hs] at e2
    exact e2
  have e5 : U.heap[q]? = some c9 := e1
  rw [e5, h9, Array.getElem?_eq_getElem hq]
/-- the words of a throw but the four that speak of the heap -/
def vx_no (w : Cond) : Bool := decide (w ≠ .isRef (.static Bundle.tN "UNASSIGNED_STACK" Bundle.steD)) && decide (w ≠ .isRef (.static Bundle.tN "SUPPRESSED_SENTINEL" Bundle.listD)) && decide (w ≠ .laysStatic Bundle.tN "UNASSIGNED_STACK" Bundle.steD) && decide (w ≠ .laysStatic Bundle.tN "SUPPRESSED_SENTINEL" Bundle.listD)
def vx_at0 (own : String) (ic : Nat) (X : String) (names : List String) : List Cond := (Bundle.ownAtoms0 own ic X names).filter vx_no
def vx_atS (own : String) (ic : Nat) (X : String) (names : List String) : List Cond := (Bundle.ownAtoms own ic X names).filter vx_no
/-- a word that the tables alone decide, or a good one -/
def vx_ot (w : Cond) : Bool := w.onTables || goodWord w
theorem vx_ot_at {args a' : Array Value} {s U : State} {w : Cond} (hW : s.WarmedH U.vm) (hvm : s.vm = U.vm) (hg : vx_ot w = true) (h : w.before args s = true) : w.before a' U = true := by
  simp only [vx_ot, Bool.or_eq_true] at hg
  rcases hg with hg | hg
  · exact va_tabs hg hvm h
  · exact word_at hW (good_of_word hg) h
/-- a list's words: the good ones out of the method's own list, the others by premises of their own -/
theorem vx_hat {args : Array Value} {s : State} {L B : List Cond} (h1 : ∀ w ∈ L.filter goodWord, w.before args s = true) (h2 : ∀ w ∈ L.filter (fun w => !goodWord w), w ∈ B) (h3 : ∀ w ∈ B, w.before args s = true) : ∀ w ∈ L, w.before args s = true := by
  intro w hw
  by_cases g : goodWord w = true
  · exact h1 w (List.mem_filter.mpr ⟨hw, g⟩)
  · refine h3 w (h2 w (List.mem_filter.mpr ⟨hw, ?_⟩))
    show (!goodWord w) = true
    cases hgw : goodWord w
    · rfl
    · exact absurd hgw g
theorem vx_c {args : Array Value} {s : State} {w : Cond} {B : List Cond} (h : w.before args s = true) (t : ∀ w ∈ B, w.before args s = true) : ∀ w' ∈ w :: B, w'.before args s = true := fun w' h' => (List.mem_cons.mp h').elim (fun e => by rw [e]; exact h) (t w')
theorem vx_n {args : Array Value} {s : State} : ∀ w ∈ ([] : List Cond), w.before args s = true := fun _ h => nomatch h
theorem vx_own {args : Array Value} {s : State} {L : List Cond} (h1 : ∀ w ∈ L.filter vx_no, w.before args s = true)
    (hU : (Cond.isRef (.static Bundle.tN "UNASSIGNED_STACK" Bundle.steD)).before args s = true) (hN : (Cond.isRef (.static Bundle.tN "SUPPRESSED_SENTINEL" Bundle.listD)).before args s = true)
    (lU : (Cond.laysStatic Bundle.tN "UNASSIGNED_STACK" Bundle.steD).before args s = true) (lN : (Cond.laysStatic Bundle.tN "SUPPRESSED_SENTINEL" Bundle.listD).before args s = true) : ∀ w ∈ L, w.before args s = true := by
  intro w hw
  by_cases e1 : w = .isRef (.static Bundle.tN "UNASSIGNED_STACK" Bundle.steD)
  · rw [e1]; exact hU
  · by_cases e2 : w = .isRef (.static Bundle.tN "SUPPRESSED_SENTINEL" Bundle.listD)
    · rw [e2]; exact hN
    · by_cases e3 : w = .laysStatic Bundle.tN "UNASSIGNED_STACK" Bundle.steD
      · rw [e3]; exact lU
      · by_cases e4 : w = .laysStatic Bundle.tN "SUPPRESSED_SENTINEL" Bundle.listD
        · rw [e4]; exact lN
        · exact h1 w (List.mem_filter.mpr ⟨hw, by unfold vx_no; rw [decide_eq_true e1, decide_eq_true e2, decide_eq_true e3, decide_eq_true e4]; rfl⟩)
/-- where a static field lies, its class's statics cell in H -/
def vx_L (C n d : String) (A : Nat → Prop) (U : State) (H : Heap) : Prop := ∃ (c : ClassId) (k : Class) (i : Nat) (f : Field) (a : Nat) (cell : Cell), U.vm.findClass C = some c ∧ U.fieldFound? C n d = some (c, k, i, f) ∧ f.isStatic = true ∧ k.statics = some a ∧ H[a]? = some cell ∧ cell.vm.isStatics = true ∧ cell.cls = c ∧ f.slot < cell.slots.size ∧ k.staticTypes[f.slot]? = some f.type ∧ ¬ A a
theorem vx_L.moved {C n d : String} {A : Nat → Prop} {u U : State} {H : Heap} (hvm : u.vm.Alike U.vm) (h : vx_L C n d A u H) : vx_L C n d A U H := by
  obtain ⟨c, k, i, f, a, cell, h1, h2, h3, h4, h5, h6, h7, h8, h9, h10⟩ := h
  obtain ⟨k', hi', he⟩ := State.fieldFound?_setVm hvm h2
  exact ⟨c, k', i, f, a, cell, by rw [hvm.findClass]; exact h1, hi', h3, by rw [he]; exact h4, h5, h6, h7, h8, by rw [he]; exact h9, h10⟩
theorem vx_L.kept {C n d : String} {A : Nat → Prop} {U : State} {H H1 : Heap} (h : vx_L C n d A U H) (hq : ∀ a : Nat, a < H.size → ¬ A a → H1[a]? = H[a]?) : vx_L C n d A U H1 := by
  obtain ⟨c, k, i, f, a, cell, h1, h2, h3, h4, h5, h6, h7, h8, h9, h10⟩ := h
  exact ⟨c, k, i, f, a, cell, h1, h2, h3, h4, by rw [hq a (Array.getElem?_eq_some_iff.mp h5).1 h10]; exact h5, h6, h7, h8, h9, h10⟩
theorem vx_L.narrow {C n d : String} {A B : Nat → Prop} {U : State} {H : Heap} (h : vx_L C n d A U H) (hAB : ∀ q, B q → A q) : vx_L C n d B U H := by
  obtain ⟨c, k, i, f, a, cell, h1, h2, h3, h4, h5, h6, h7, h8, h9, h10⟩ := h
  exact ⟨c, k, i, f, a, cell, h1, h2, h3, h4, h5, h6, h7, h8, h9, fun z => h10 (hAB _ z)⟩
theorem vx_L.word {C n d : String} {A : Nat → Prop} {s : State} {args : Array Value} (h : vx_L C n d A s s.heap) : (Cond.laysStatic C n d).before args s = true := by
  obtain ⟨c, k, i, f, a, cell, h1, h2, h3, h4, h5, h6, h7, h8, h9, -⟩ := h
  show (Cond.laysStatic C n d).holds args s none s [] = true
  exact Cond.laysStatic_of h1 h2 h3 h4 h5 h6 h7 h8 h9
/-- .. and what it holds: null or some reference -/
def vx_Zq (C n d : String) (A : Nat → Prop) (U : State) (H : Heap) : Prop := va_Zq C n d A U H ∧ vx_L C n d A U H
theorem vx_Zq.moved {C n d : String} {A : Nat → Prop} {u U : State} {H : Heap} (hvm : u.vm.Alike U.vm) (h : vx_Zq C n d A u H) : vx_Zq C n d A U H := ⟨va_Zq.moved hvm h.1, vx_L.moved hvm h.2⟩
theorem vx_Zq.kept {C n d : String} {A : Nat → Prop} {U : State} {H H1 : Heap} (h : vx_Zq C n d A U H) (hq : ∀ a : Nat, a < H.size → ¬ A a → H1[a]? = H[a]?) : vx_Zq C n d A U H1 := ⟨va_Zq.kept h.1 hq, vx_L.kept h.2 hq⟩
theorem vx_Zq.narrow {C n d : String} {A B : Nat → Prop} {U : State} {H : Heap} (h : vx_Zq C n d A U H) (hAB : ∀ q, B q → A q) : vx_Zq C n d B U H := ⟨va_Zq.narrow h.1 hAB, vx_L.narrow h.2 hAB⟩
theorem vx_Zqof {args : Array Value} {s : State} {C n d : String} {A : Nat → Prop} (hl : (Cond.laysStatic C n d).before args s = true) (hini : (Cond.initialized C).before args s = true) (h : (Cond.isRef (.static C n d)).before args s = true) (hA : ∀ a : Nat, a < s.heap.size → ¬ A a) : vx_Zq C n d A s s.heap := by
  refine ⟨va_Zqof hl hini h hA, ?_⟩
  obtain ⟨c, k, i, f, a, cell, h1, h2, h3, h4, h5, h6, h7, h8, h9⟩ := Cond.laysStatic_spec hl
  exact ⟨c, k, i, f, a, cell, h1, h2, h3, h4, h5, h6, h7, h8, h9, hA a (Array.getElem?_eq_some_iff.mp h5).1⟩
theorem vx_isRef {C n d : String} {v : Value} {A : Nat → Prop} {s : State} {args : Array Value} (h : va_Z C n d v A s s.heap) (hv : v.isRef = true) : (Cond.isRef (.static C n d)).before args s = true := by
  obtain ⟨cf, kf, fi, f, a, cell, h1, h2, h3, h4, h5, h6, h7, -⟩ := h
  have he : (Term.static C n d).eval args s none [] s = some v := by
    simp [Term.eval, State.fieldNamed?, h1, h2, h4, h5, h6, h7]
  simp only [Cond.before, Cond.holds, Cond.value, he]
  cases v <;> simp_all [Value.isRef]
theorem vx_isRefq {C n d : String} {A : Nat → Prop} {s : State} {args : Array Value} (h : va_Zq C n d A s s.heap) : (Cond.isRef (.static C n d)).before args s = true := by
  rcases h with h | ⟨t, h⟩
  · exact vx_isRef h rfl
  · exact vx_isRef h rfl
/-- the same frame, seen from here: as if the method were called anew in this heap -/
theorem vx_rebase {T : State} (X : Stand p l e R s m args below meth c T locs cells slots) {R' : Room} (hf : R'.frames ≤ R.frames) (hl : R'.locals ≤ R.locals) (hc : cells + R'.cells ≤ R.cells) (hs : slots + R'.slots ≤ R.slots) :
    Stand p l e R' ((T.setVm s.vm).setFrames (.invoking m args :: below)) m args below meth c T [] 0 0 := by
  have htop : (T.setVm s.vm).topJava?.isSome := X.here.top
  have hF : ((T.setVm s.vm).setFrames (.invoking m args :: below)).frames = .invoking m args :: below := State.frames_setFrames _ (State.cur_lt_of_top htop)
  obtain ⟨g₀, hg0⟩ := Option.isSome_iff_exists.mp htop
  obtain ⟨r, hr⟩ := State.topJava?_eq_some.mp hg0
  have hl9 : e.platform.stackLimits (T.setVm s.vm).me = e.platform.stackLimits s.me := X.limits
  have hb9 : (T.setVm s.vm).me.stackBytes = s.me.stackBytes := X.bytes
  refine ⟨X.admits, X.cas, X.clock, hF, ?_, X.hears, X.method, X.code, X.here, X.tail, X.warmed, ?_, ?_, ?_⟩
  · have h := X.room
    have hU : ((T.setVm s.vm).setFrames (.invoking m args :: below)).localsInUse = s.localsInUse := by
      rw [State.localsInUse_invoking hF (meth := meth) (c := c) X.method X.code, State.localsInUse_invoking X.frames X.method X.code]
    simp only [State.hasRoom, Bool.and_eq_true, decide_eq_true_eq] at h ⊢
    obtain ⟨⟨⟨⟨h1, h2, h3, h4, h5, h6⟩, h7⟩, h8⟩, h9⟩ := h
    rw [X.frames, List.length_cons] at h2 h3
    have q1 := X.heapSize
    have q2 := X.used
    simp only [hF, hU, List.length_cons, State.stackLimits_setFrames, State.stackBytes_setFrames, hl9, hb9]
    refine ⟨⟨⟨⟨by omega, by omega, by omega, by omega, by omega, h6⟩, ?_⟩, ?_⟩, X.book⟩
    · show T.heap.size + R'.cells ≤ e.platform.maxCells
      omega
    · show T.slotsUsed + R'.slots ≤ e.platform.maxSlots
      omega
  · rw [State.stackLimits_setFrames]; rfl
  · rw [State.stackBytes_setFrames]; rfl
  · refine ⟨?_, Nat.le_refl _, Nat.le_refl _, ?_, ?_, fun a c9 h9 => ⟨c9, h9, rfl, rfl, fun _ _ => rfl⟩⟩
    · obtain ⟨t, ht, -⟩ := State.frames_cons hr
      show T.setVm s.vm = { ((T.setVm s.vm).setFrames (.invoking m args :: below)).setFrames (T.setVm s.vm).frames with heap := T.heap, slotsUsed := T.slotsUsed }
      rw [State.setFrames_setFrames, State.setFrames_self ht]
      rfl
    · show T.slotsUsed = T.slotsUsed + ((T.heap.toList.drop T.heap.size).map (·.slots.size)).sum
      rw [List.drop_eq_nil_of_le (Nat.le_of_eq Array.length_toList)]
      rfl
    · show ((T.heap.toList.drop T.heap.size).map (·.slots.size)).sum ≤ 0
      rw [List.drop_eq_nil_of_le (Nat.le_of_eq Array.length_toList)]
      exact Nat.le_refl _
/-- 'throw new E()': new; dup; invokespecial; athrow -/
theorem vx_throw0 {cc : ByteArray} {pc : Nat} (hexec : p.tables.exec = Jvm.exec) (hb : c.code = cc) (hl : l.stackTraces = false) {own cls : String} {names : List String} {ik ic mc ms : Nat} {A : Nat → Prop}
    (hown : s.vm.findClass own = some m.cls) (hcls : Bundle.fit cls = true) (hnames : ∀ n ∈ names, Bundle.fit n = true)
    (hk : (Cond.classLink own ik cls).before args s = true) (hini : (Cond.initialized cls).before args s = true) (hat : ∀ w ∈ vx_at0 own ic cls names, w.before args s = true)
    (hgood : ∀ w ∈ Cond.classLink own ik cls :: Cond.initialized cls :: vx_at0 own ic cls names, vx_ot w = true)
    (hU : vx_Zq Bundle.tN "UNASSIGNED_STACK" Bundle.steD A s s.heap) (hN : vx_Zq Bundle.tN "SUPPRESSED_SENTINEL" Bundle.listD A s s.heap) (hS : va_S A s.heap H locs) (hsize : ls.size = c.maxLocals)
    (d0 : decode cc pc = .ok (.new ik, 3)) (d3 : decode cc (pc + 3) = .ok (.dup, 1)) (d4 : decode cc (pc + 4) = .ok (.invokespecial ic, 3)) (d7 : decode cc (pc + 7) = .ok (.athrow, 1))
    (hout : ∀ x ∈ c.exceptionTable.toList, covers x (pc + 7) = false)
    (hRframes : names.length + 3 < R.frames) (hRlocals : (rest.map fun v => v.category).sum + (13 * (names.length + 1) + 42) ≤ R.locals) (hRcells : cells + 1 ≤ R.cells) (hRslots : slots + 6 ≤ R.slots) (hlocks : meth.locks = false)
    (hx : ∀ t : State, s.vm.Alike t.vm → H.size ≤ t.heap.size → (∀ q : Nat, q < H.size → t.heap[q]? = H[q]?) → XC cls s t)
    (hf : ∀ z ∈ locs, free z.base) (hc : cells + 1 ≤ mc) (hs : slots + 6 ≤ ms) :
    W p l e R s m args below meth c H locs cells slots (vx_MQ below Qc XC args s mc ms free) (F0 m pc ls rest) := by
  intro T hT X
  have htr : e.platform.stackTraces = false := (show e.platform.stackTraces = l.stackTraces by rw [X.admits.platform]).trans hl
  have Y := vx_rebase X (R' := { frames := R.frames, locals := R.locals, cells := 1, slots := 6 }) (Nat.le_refl _) (Nat.le_refl _) hRcells hRslots
  obtain ⟨s', hA⟩ : ∃ z, z = (T.setVm s.vm).setFrames (.invoking m args :: below) := ⟨_, rfl⟩
  rw [← hA] at Y
  have hvm : s'.vm = s.vm := by rw [hA]; rfl
  have hhp : s'.heap = H := by rw [hA]; exact hT
  have hW0 : s.WarmedH s'.vm := by rw [hvm]; exact State.WarmedH.refl s
  have hat' : ∀ w ∈ vx_at0 own ic cls names, w.before args s' = true := fun w hw => vx_ot_at hW0 hvm.symm (hgood w (List.mem_cons_of_mem _ (List.mem_cons_of_mem _ hw))) (hat w hw)
  have hk' : (Cond.classLink own ik cls).before args s' = true := vx_ot_at hW0 hvm.symm (hgood _ List.mem_cons_self) hk
  have hini' : (Cond.initialized cls).before args s' = true := vx_ot_at hW0 hvm.symm (hgood _ (List.mem_cons_of_mem _ List.mem_cons_self)) hini
  have hU' : vx_Zq Bundle.tN "UNASSIGNED_STACK" Bundle.steD A s' s'.heap := by rw [hhp]; exact vx_Zq.moved hW0.alike (hU.kept hS.2.1)
  have hN' : vx_Zq Bundle.tN "SUPPRESSED_SENTINEL" Bundle.listD A s' s'.heap := by rw [hhp]; exact vx_Zq.moved hW0.alike (hN.kept hS.2.1)
  have h : ∀ w ∈ Bundle.ownAtoms0 own ic cls names, w.before args s' = true := vx_own hat' (vx_isRefq hU'.1) (vx_isRefq hN'.1) hU'.2.word hN'.2.word
  have hown' : s'.vm.findClass own = some m.cls := by rw [hvm]; exact hown
  have hins : (Cond.instantiable cls 6).before args s' = true := h _ (by simp [Bundle.ownAtoms0])
  obtain ⟨vm₁, cX, kX, hfX, hkX, -, -, X₁, st1⟩ := Y.newCold hexec (own := own) (C := cls) (index := ik) (n := 6) hown' hk' hins hini'
    (g := F0 m pc ls rest) rfl (by rw [hb]; exact d0) (Nat.le_refl _) (Nat.le_refl _)
  generalize hT1 : (T.setVm vm₁).pushCell { cls := cX, slots := kX.instanceTypes.map defaultValue, vm := .none } = T1 at X₁ st1
  have hcat : (Value.ref T.heap.size).category = 1 := rfl
  have hcellA : T1.heap[T.heap.size]? = some (freshCell cX kX) := by rw [← hT1]; exact State.heap_pushCell_size _ _
  have d3' : decode c.code (pc + 3) = .ok (.dup, 1) := by rw [hb]; exact d3
  obtain ⟨U, hsteps, hrun, hend, hW, hsame, ce, hce, hO⟩ := X₁.ctorThrow0 hexec htr (own := own) (cls := cls) (names := names) (ic := ic) hown' hcls hnames h (fun x hx => nomatch hx) hfX hkX hcellA (by rw [hhp, hT]; exact Nat.le_refl _)
    (g := { method := m, pc := pc + 4, locals := ls, stack := .ref T.heap.size :: .ref T.heap.size :: rest, locked := none }) rfl hsize rfl rfl (rest := rest) rfl
    (by rw [hb]; exact d4) (by rw [hb]; exact d7) hout hRframes (by simp only [List.map_cons, List.sum_cons, hcat]; omega) hlocks
  obtain ⟨f1, f2⟩ := vx_frame hsame
  rw [hhp] at f1 f2
  have hWs : s.WarmedH U.vm := State.WarmedH.trans hW0 hW
  have hcl : s.vm.findClass cls = some ce.cls := by
    have h9 := hO.cls
    rw [hvm] at h9
    exact h9
  have hall : s.sameButNew ({ U with vm := s.vm } : State) locs mc ms := by
    subst hA
    obtain ⟨e1, e2⟩ := hsame
    rw [State.setFrames_setFrames] at e1
    have h2 : (T.setVm s.vm).sameButNew ({ U with vm := s.vm } : State) [] (0 + 1) (0 + 6) := ⟨e1, e2⟩
    have h3 := X.same.trans h2
    rw [List.append_nil] at h3
    exact h3.mono hc hs
  refine ⟨U, ?_, .threw T.heap.size, hrun, hend, Or.inr ⟨T.heap.size, rfl, cls, ce, locs, hx U hWs.alike f1 (fun q hq => f2 q hq (fun z hz => nomatch hz)), hce, hO.vm, hcl, hWs, hall, hf⟩⟩
  refine st1 _ ?_
  show Steps p.tables e below (T1.setTop { method := m, pc := pc + 3, locals := ls, stack := .ref T.heap.size :: rest, locked := none }) _
  jvm_step X₁.here [X₁.here.top, hexec, d3', Value.category]
  exact hsteps
/-- 'throw new E("text")': new; dup; ldc; invokespecial; athrow -/
theorem vx_throwS {cc : ByteArray} {pc : Nat} (hexec : p.tables.exec = Jvm.exec) (hb : c.code = cc) (hl : l.stackTraces = false) {own cls text : String} {names : List String} {ik is ic mc ms sa : Nat} {A : Nat → Prop}
    (hown : s.vm.findClass own = some m.cls) (hcls : Bundle.fit cls = true) (hnames : ∀ n ∈ names, Bundle.fit n = true)
    (hk : (Cond.classLink own ik cls).before args s = true) (hini : (Cond.initialized cls).before args s = true) (hstr : vk_R own is text sa s) (hat : ∀ w ∈ vx_atS own ic cls names, w.before args s = true)
    (hgood : ∀ w ∈ Cond.classLink own ik cls :: Cond.initialized cls :: vx_atS own ic cls names, vx_ot w = true)
    (hU : vx_Zq Bundle.tN "UNASSIGNED_STACK" Bundle.steD A s s.heap) (hN : vx_Zq Bundle.tN "SUPPRESSED_SENTINEL" Bundle.listD A s s.heap) (hS : va_S A s.heap H locs) (hsize : ls.size = c.maxLocals)
    (d0 : decode cc pc = .ok (.new ik, 3)) (d3 : decode cc (pc + 3) = .ok (.dup, 1)) (d4 : decode cc (pc + 4) = .ok (.ldc is, 2)) (d6 : decode cc (pc + 6) = .ok (.invokespecial ic, 3)) (d9 : decode cc (pc + 9) = .ok (.athrow, 1))
    (hout : ∀ x ∈ c.exceptionTable.toList, covers x (pc + 9) = false)
    (hRframes : names.length + 3 < R.frames) (hRlocals : (rest.map fun v => v.category).sum + (13 * (names.length + 1) + 43) ≤ R.locals) (hRcells : cells + 1 ≤ R.cells) (hRslots : slots + 6 ≤ R.slots) (hlocks : meth.locks = false)
    (hx : ∀ t : State, s.vm.Alike t.vm → H.size ≤ t.heap.size → (∀ q : Nat, q < H.size → t.heap[q]? = H[q]?) → XC cls s t)
    (hf : ∀ z ∈ locs, free z.base) (hc : cells + 1 ≤ mc) (hs : slots + 6 ≤ ms) :
    W p l e R s m args below meth c H locs cells slots (vx_MQ below Qc XC args s mc ms free) (F0 m pc ls rest) := by
  intro T hT X
  have htr : e.platform.stackTraces = false := (show e.platform.stackTraces = l.stackTraces by rw [X.admits.platform]).trans hl
  have Y := vx_rebase X (R' := { frames := R.frames, locals := R.locals, cells := 1, slots := 6 }) (Nat.le_refl _) (Nat.le_refl _) hRcells hRslots
  obtain ⟨s', hA⟩ : ∃ z, z = (T.setVm s.vm).setFrames (.invoking m args :: below) := ⟨_, rfl⟩
  rw [← hA] at Y
  have hvm : s'.vm = s.vm := by rw [hA]; rfl
  have hhp : s'.heap = H := by rw [hA]; exact hT
  have hW0 : s.WarmedH s'.vm := by rw [hvm]; exact State.WarmedH.refl s
  have hat' : ∀ w ∈ vx_atS own ic cls names, w.before args s' = true := fun w hw => vx_ot_at hW0 hvm.symm (hgood w (List.mem_cons_of_mem _ (List.mem_cons_of_mem _ hw))) (hat w hw)
  have hk' : (Cond.classLink own ik cls).before args s' = true := vx_ot_at hW0 hvm.symm (hgood _ List.mem_cons_self) hk
  have hini' : (Cond.initialized cls).before args s' = true := vx_ot_at hW0 hvm.symm (hgood _ (List.mem_cons_of_mem _ List.mem_cons_self)) hini
  have hU' : vx_Zq Bundle.tN "UNASSIGNED_STACK" Bundle.steD A s' s'.heap := by rw [hhp]; exact vx_Zq.moved hW0.alike (hU.kept hS.2.1)
  have hN' : vx_Zq Bundle.tN "SUPPRESSED_SENTINEL" Bundle.listD A s' s'.heap := by rw [hhp]; exact vx_Zq.moved hW0.alike (hN.kept hS.2.1)
  have h : ∀ w ∈ Bundle.ownAtoms own ic cls names, w.before args s' = true := vx_own hat' (vx_isRefq hU'.1) (vx_isRefq hN'.1) hU'.2.word hN'.2.word
  have hown' : s'.vm.findClass own = some m.cls := by rw [hvm]; exact hown
  have hins : (Cond.instantiable cls 6).before args s' = true := h _ (by simp [Bundle.ownAtoms])
  obtain ⟨vm₁, cX, kX, hfX, hkX, -, -, X₁, st1⟩ := Y.newCold hexec (own := own) (C := cls) (index := ik) (n := 6) hown' hk' hins hini'
    (g := F0 m pc ls rest) rfl (by rw [hb]; exact d0) (Nat.le_refl _) (Nat.le_refl _)
  generalize hT1 : (T.setVm vm₁).pushCell { cls := cX, slots := kX.instanceTypes.map defaultValue, vm := .none } = T1 at X₁ st1
  have hcat : (Value.ref T.heap.size).category = 1 := rfl
  have hcellA : T1.heap[T.heap.size]? = some (freshCell cX kX) := by rw [← hT1]; exact State.heap_pushCell_size _ _
  have d3' : decode c.code (pc + 3) = .ok (.dup, 1) := by rw [hb]; exact d3
  have d4' : decode c.code (pc + 4) = .ok (.ldc is, 2) := by rw [hb]; exact d4
  have hstr' : vk_R own is text sa s' := vk_R.warm hW0 hstr
  obtain ⟨U, hsteps, hrun, hend, hW, hsame, ce, hce, hO⟩ := X₁.ctorThrowS hexec htr (own := own) (cls := cls) (names := names) (ic := ic) hown' hcls hnames h (fun x hx => nomatch hx) hfX hkX hcellA (by rw [hhp, hT]; exact Nat.le_refl _) (msg := .ref sa) rfl
    (g := { method := m, pc := pc + 6, locals := ls, stack := .ref sa :: .ref T.heap.size :: .ref T.heap.size :: rest, locked := none }) rfl hsize rfl rfl (rest := rest) rfl
    (by rw [hb]; exact d6) (by rw [hb]; exact d9) hout hRframes (by simp only [List.map_cons, List.sum_cons, hcat]; omega) hlocks
  obtain ⟨f1, f2⟩ := vx_frame hsame
  rw [hhp] at f1 f2
  have hWs : s.WarmedH U.vm := State.WarmedH.trans hW0 hW
  have hcl : s.vm.findClass cls = some ce.cls := by
    have h9 := hO.cls
    rw [hvm] at h9
    exact h9
  have hall : s.sameButNew ({ U with vm := s.vm } : State) locs mc ms := by
    subst hA
    obtain ⟨e1, e2⟩ := hsame
    rw [State.setFrames_setFrames] at e1
    have h2 : (T.setVm s.vm).sameButNew ({ U with vm := s.vm } : State) [] (0 + 1) (0 + 6) := ⟨e1, e2⟩
    have h3 := X.same.trans h2
    rw [List.append_nil] at h3
    exact h3.mono hc hs
  refine ⟨U, ?_, .threw T.heap.size, hrun, hend, Or.inr ⟨T.heap.size, rfl, cls, ce, locs, hx U hWs.alike f1 (fun q hq => f2 q hq (fun z hz => nomatch hz)), hce, hO.vm, hcl, hWs, hall, hf⟩⟩
  refine st1 _ ?_
  show Steps p.tables e below (T1.setTop { method := m, pc := pc + 3, locals := ls, stack := .ref T.heap.size :: rest, locked := none }) _
  jvm_step X₁.here [X₁.here.top, hexec, d3', Value.category]
  exact X₁.ldcString hexec (own := own) (text := text) (index := is) (a := sa) hown' hstr'.1 hstr'.2
    (g := { method := m, pc := pc + 4, locals := ls, stack := .ref T.heap.size :: .ref T.heap.size :: rest, locked := none }) rfl d4' _ hsteps
/-- 'throw new E("text")', the text by a wide index -/
theorem vx_throwSW {cc : ByteArray} {pc : Nat} (hexec : p.tables.exec = Jvm.exec) (hb : c.code = cc) (hl : l.stackTraces = false) {own cls text : String} {names : List String} {ik is ic mc ms sa : Nat} {A : Nat → Prop}
    (hown : s.vm.findClass own = some m.cls) (hcls : Bundle.fit cls = true) (hnames : ∀ n ∈ names, Bundle.fit n = true)
    (hk : (Cond.classLink own ik cls).before args s = true) (hini : (Cond.initialized cls).before args s = true) (hstr : vk_R own is text sa s) (hat : ∀ w ∈ vx_atS own ic cls names, w.before args s = true)
    (hgood : ∀ w ∈ Cond.classLink own ik cls :: Cond.initialized cls :: vx_atS own ic cls names, vx_ot w = true)
    (hU : vx_Zq Bundle.tN "UNASSIGNED_STACK" Bundle.steD A s s.heap) (hN : vx_Zq Bundle.tN "SUPPRESSED_SENTINEL" Bundle.listD A s s.heap) (hS : va_S A s.heap H locs) (hsize : ls.size = c.maxLocals)
    (d0 : decode cc pc = .ok (.new ik, 3)) (d3 : decode cc (pc + 3) = .ok (.dup, 1)) (d4 : decode cc (pc + 4) = .ok (.ldc_w is, 3)) (d7 : decode cc (pc + 7) = .ok (.invokespecial ic, 3)) (d10 : decode cc (pc + 10) = .ok (.athrow, 1))
    (hout : ∀ x ∈ c.exceptionTable.toList, covers x (pc + 10) = false)
    (hRframes : names.length + 3 < R.frames) (hRlocals : (rest.map fun v => v.category).sum + (13 * (names.length + 1) + 43) ≤ R.locals) (hRcells : cells + 1 ≤ R.cells) (hRslots : slots + 6 ≤ R.slots) (hlocks : meth.locks = false)
    (hx : ∀ t : State, s.vm.Alike t.vm → H.size ≤ t.heap.size → (∀ q : Nat, q < H.size → t.heap[q]? = H[q]?) → XC cls s t)
    (hf : ∀ z ∈ locs, free z.base) (hc : cells + 1 ≤ mc) (hs : slots + 6 ≤ ms) :
    W p l e R s m args below meth c H locs cells slots (vx_MQ below Qc XC args s mc ms free) (F0 m pc ls rest) := by
  intro T hT X
  have htr : e.platform.stackTraces = false := (show e.platform.stackTraces = l.stackTraces by rw [X.admits.platform]).trans hl
  have Y := vx_rebase X (R' := { frames := R.frames, locals := R.locals, cells := 1, slots := 6 }) (Nat.le_refl _) (Nat.le_refl _) hRcells hRslots
  obtain ⟨s', hA⟩ : ∃ z, z = (T.setVm s.vm).setFrames (.invoking m args :: below) := ⟨_, rfl⟩
  rw [← hA] at Y
  have hvm : s'.vm = s.vm := by rw [hA]; rfl
  have hhp : s'.heap = H := by rw [hA]; exact hT
  have hW0 : s.WarmedH s'.vm := by rw [hvm]; exact State.WarmedH.refl s
  have hat' : ∀ w ∈ vx_atS own ic cls names, w.before args s' = true := fun w hw => vx_ot_at hW0 hvm.symm (hgood w (List.mem_cons_of_mem _ (List.mem_cons_of_mem _ hw))) (hat w hw)
  have hk' : (Cond.classLink own ik cls).before args s' = true := vx_ot_at hW0 hvm.symm (hgood _ List.mem_cons_self) hk
  have hini' : (Cond.initialized cls).before args s' = true := vx_ot_at hW0 hvm.symm (hgood _ (List.mem_cons_of_mem _ List.mem_cons_self)) hini
  have hU' : vx_Zq Bundle.tN "UNASSIGNED_STACK" Bundle.steD A s' s'.heap := by rw [hhp]; exact vx_Zq.moved hW0.alike (hU.kept hS.2.1)
  have hN' : vx_Zq Bundle.tN "SUPPRESSED_SENTINEL" Bundle.listD A s' s'.heap := by rw [hhp]; exact vx_Zq.moved hW0.alike (hN.kept hS.2.1)
  have h : ∀ w ∈ Bundle.ownAtoms own ic cls names, w.before args s' = true := vx_own hat' (vx_isRefq hU'.1) (vx_isRefq hN'.1) hU'.2.word hN'.2.word
  have hown' : s'.vm.findClass own = some m.cls := by rw [hvm]; exact hown
  have hins : (Cond.instantiable cls 6).before args s' = true := h _ (by simp [Bundle.ownAtoms])
  obtain ⟨vm₁, cX, kX, hfX, hkX, -, -, X₁, st1⟩ := Y.newCold hexec (own := own) (C := cls) (index := ik) (n := 6) hown' hk' hins hini'
    (g := F0 m pc ls rest) rfl (by rw [hb]; exact d0) (Nat.le_refl _) (Nat.le_refl _)
  generalize hT1 : (T.setVm vm₁).pushCell { cls := cX, slots := kX.instanceTypes.map defaultValue, vm := .none } = T1 at X₁ st1
  have hcat : (Value.ref T.heap.size).category = 1 := rfl
  have hcellA : T1.heap[T.heap.size]? = some (freshCell cX kX) := by rw [← hT1]; exact State.heap_pushCell_size _ _
  have d3' : decode c.code (pc + 3) = .ok (.dup, 1) := by rw [hb]; exact d3
  have d4' : decode c.code (pc + 4) = .ok (.ldc_w is, 3) := by rw [hb]; exact d4
  have hstr' : vk_R own is text sa s' := vk_R.warm hW0 hstr
  obtain ⟨U, hsteps, hrun, hend, hW, hsame, ce, hce, hO⟩ := X₁.ctorThrowS hexec htr (own := own) (cls := cls) (names := names) (ic := ic) hown' hcls hnames h (fun x hx => nomatch hx) hfX hkX hcellA (by rw [hhp, hT]; exact Nat.le_refl _) (msg := .ref sa) rfl
    (g := { method := m, pc := pc + 7, locals := ls, stack := .ref sa :: .ref T.heap.size :: .ref T.heap.size :: rest, locked := none }) rfl hsize rfl rfl (rest := rest) rfl
    (by rw [hb]; exact d7) (by rw [hb]; exact d10) hout hRframes (by simp only [List.map_cons, List.sum_cons, hcat]; omega) hlocks
  obtain ⟨f1, f2⟩ := vx_frame hsame
  rw [hhp] at f1 f2
  have hWs : s.WarmedH U.vm := State.WarmedH.trans hW0 hW
  have hcl : s.vm.findClass cls = some ce.cls := by
    have h9 := hO.cls
    rw [hvm] at h9
    exact h9
  have hall : s.sameButNew ({ U with vm := s.vm } : State) locs mc ms := by
    subst hA
    obtain ⟨e1, e2⟩ := hsame
    rw [State.setFrames_setFrames] at e1
    have h2 : (T.setVm s.vm).sameButNew ({ U with vm := s.vm } : State) [] (0 + 1) (0 + 6) := ⟨e1, e2⟩
    have h3 := X.same.trans h2
    rw [List.append_nil] at h3
    exact h3.mono hc hs
  refine ⟨U, ?_, .threw T.heap.size, hrun, hend, Or.inr ⟨T.heap.size, rfl, cls, ce, locs, hx U hWs.alike f1 (fun q hq => f2 q hq (fun z hz => nomatch hz)), hce, hO.vm, hcl, hWs, hall, hf⟩⟩
  refine st1 _ ?_
  show Steps p.tables e below (T1.setTop { method := m, pc := pc + 3, locals := ls, stack := .ref T.heap.size :: rest, locked := none }) _
  jvm_step X₁.here [X₁.here.top, hexec, d3', Value.category]
  exact X₁.ldcStringW hexec (own := own) (text := text) (index := is) (a := sa) hown' hstr'.1 hstr'.2
    (g := { method := m, pc := pc + 4, locals := ls, stack := .ref T.heap.size :: .ref T.heap.size :: rest, locked := none }) rfl d4' _ hsteps
end Ends
section Bodies
variable {l : Launch}
theorem vx_ofW {y : MethodName} {ws ws' : List Cond} {rm : Room} {Pc : Array Value → State → Prop} {Qc : Array Value → State → Outcome → State → Prop} {XC : String → State → State → Prop} {mc ms : Nat} {free : Addr → Prop} {cc : ByteArray} {maxL : Nat} {ret : Option FieldType}
    (hy : plainName y.cls = true) (hw : ws = Cond.code y cc maxL ret :: ws')
    (body : ∀ p e s m args below meth c s₁, BodyLoose p l y (headSpec ws rm) cc maxL ret e s m args below meth c s₁ → c.maxLocals = maxL → (∀ x ∈ c.exceptionTable.toList, False) → Pc args s →
      W p l e (headSpec ws rm).room s m args below meth c s.heap [] 0 0 (vx_MQ below Qc XC args s mc ms free) (entryFrame m args maxL)) : vx_Met l y ws rm Pc Qc XC mc ms free := by
  refine MetFree.of_bodyS (code := cc) (maxLocals := maxL) (ret := ret) hy ?_ ?_
  · intro args s m h hn
    obtain ⟨meth, c, h1, h2, h3, h4, h5, h6, -, -⟩ := Cond.code_spec hn (atoms_spec (ws := ws) h _ (by rw [hw]; exact List.mem_cons_self))
    exact ⟨meth, c, h1, h2, h3, h4, h5, h6⟩
  · intro p e s m args below meth c s₁ B hml hP _
    have hh0 : s₁.heap = s.heap := by rw [B.state]; rfl
    have ht : ∀ x ∈ c.exceptionTable.toList, False := by
      obtain ⟨meth9, c9, h1, h2, -, -, -, -, h7, -⟩ := Cond.code_spec B.named (atoms_spec (ws := ws) B.pre _ (by rw [hw]; exact List.mem_cons_self))
      cases Option.some.inj (h1.symm.trans B.method)
      cases Option.some.inj (h2.symm.trans (Stand.of_body B).code)
      intro x hx
      rw [Array.isEmpty_iff.mp h7] at hx
      cases hx
    obtain ⟨t, a1, o, b1, b2, b3⟩ := body p e s m args below meth c s₁ B hml ht hP s₁ hh0 (Stand.of_body B)
    exact ⟨t, o, a1, b1, b2, b3⟩
/-- the table of a body with handlers -/
theorem vx_table {p : Program} {x y : MethodName} {S : Spec} {cc bytes : ByteArray} {maxL maxL' : Nat} {ret ret' : Option FieldType} {e : Env} {s s₁ : State} {m : MethodId} {args : Array Value} {below : List Frame} {meth : Method} {c : Code} {hh : List (Nat × Nat × Nat × Nat)}
    (B : BodyLoose p l y S cc maxL ret e s m args below meth c s₁) (h : (Cond.codeWith y bytes maxL' ret' hh).before args s = true) : c.exceptionTable.toList = tableOf hh := by
  obtain ⟨m9, meth9, c9, hn9, h1, h2, -, -, h6, -⟩ := Cond.codeWith_spec h
  cases Option.some.inj (hn9.symm.trans B.named)
  cases Option.some.inj (h1.symm.trans B.method)
  cases Option.some.inj (h2.symm.trans (Stand.of_body B).code)
  rw [← h6, table_eq]
end Bodies
end VXA
/-! ===== END ===== -/
/-! ===== BEGIN a static call of a method with an exception table ===== -/
section VXS
variable {p : Program} {l : Launch} {e : Env} {R : Room} {s : State} {m : MethodId} {args : Array Value} {below : List Frame} {meth : Method} {c : Code} {T : State} {H : Heap} {locs : List Loc} {cells slots : Nat}
abbrev vx_CSW (R : Room) (s : State) (args : Array Value) (own : String) (index : Nat) (y : MethodName) (bytes : ByteArray) (maxL : Nat) (ret : Option FieldType) (hh : List (Nat × Nat × Nat × Nat)) (ws : List Cond) (rm : Room) (mc ms n : Nat) : Prop :=
  (rm.cells = mc ∧ rm.slots = ms ∧ rm.frames + 1 ≤ R.frames ∧ 8 + (maxL + 11) + rm.locals ≤ R.locals ∧ (∀ w ∈ ws, ∀ (a' : Array Value) (U : State), s.WarmedH U.vm → w.before a' U = true) ∧ Cond.codeWith y bytes maxL ret hh ∈ ws) ∧
  (Cond.codeWith y bytes maxL ret hh).before args s = true ∧ (Cond.initialized y.cls).before args s = true ∧ (y.cls ≠ "java/lang/invoke/MethodHandle" ∧ y.cls ≠ "java/lang/invoke/VarHandle") ∧
  (∀ sig, parseMethodDescriptor y.desc = some sig → n = sig.parameters.length) ∧ (Cond.methodLink own index y).before args s = true ∧ (Cond.static y).before args s = true
theorem vx_cwSW {own : String} {index maxL mc ms : Nat} {y : MethodName} {bytes : ByteArray} {ret : Option FieldType} {hh : List (Nat × Nat × Nat × Nat)} {Ts ws ws' : List Cond} {rm : Room} (n : Nat) (ht : ∀ w ∈ Ts, w.before args s = true) (hT : GoodIn Ts (va_wsS own index y ws)) (hw : ws = Cond.codeWith y bytes maxL ret hh :: ws') (hrc : rm.cells = mc) (hrs : rm.slots = ms)
    (hd : y.cls ≠ "java/lang/invoke/MethodHandle" ∧ y.cls ≠ "java/lang/invoke/VarHandle" ∧ (parseMethodDescriptor y.desc).map (fun d => d.parameters.length) = some n) (hR : rm.frames + 1 ≤ R.frames ∧ 8 + (maxL + 11) + rm.locals ≤ R.locals) :
    vx_CSW R s args own index y bytes maxL ret hh ws rm mc ms n := by
  have ok : ∀ w ∈ va_wsS own index y ws, w.before args s = true := fun w h => ht w (hT w h).1
  have hG : GoodIn Ts ws := fun w h => hT w (by unfold va_wsS; exact List.mem_append_right _ h)
  have hc : Cond.codeWith y bytes maxL ret hh ∈ ws := by rw [hw]; exact List.mem_cons_self
  refine ⟨⟨hrc, hrs, hR.1, hR.2, pay_in ht hG, hc⟩, ht _ (hG _ hc).1, ok _ (by simp [va_wsS]), ⟨hd.1, hd.2.1⟩, fun sig h => ?_, ok _ (by simp [va_wsS]), ok _ (by simp [va_wsS])⟩
  have h2 := hd.2.2
  rw [h] at h2
  exact (Option.some.inj h2).symm
theorem vx_callSW (X : Stand p l e R s m args below meth c T locs cells slots) (hexec : p.tables.exec = Jvm.exec) {own : String} {index : Nat} {y : MethodName} {bytes : ByteArray} {maxL : Nat} {ret : Option FieldType} {hh : List (Nat × Nat × Nat × Nat)}
    (hown : s.vm.findClass own = some m.cls) (hlink : (Cond.methodLink own index y).before args s = true) (hstat : (Cond.static y).before args s = true) (hinit : (Cond.initialized y.cls).before args s = true)
    (hcode : (Cond.codeWith y bytes maxL ret hh).before args s = true) (hy : y.cls ≠ "java/lang/invoke/MethodHandle" ∧ y.cls ≠ "java/lang/invoke/VarHandle")
    {W9 : Nat} {Pre : Pt → Array Value → Prop} {Post : Pt → Array Value → Option Value → Pt → Prop} (hK : Back l R p e below s args y 3 W9 Pre Post)
    {g : JFrame} (hg : g.method = m) (hsize : g.locals.size = c.maxLocals) {argsL rest : List Value} (hlen : ∀ sig, parseMethodDescriptor y.desc = some sig → argsL.length = sig.parameters.length)
    (hstack : g.stack = argsL.reverse ++ rest) (hW : 2 * g.monitorRoom + (rest.map fun v => v.category).sum ≤ W9) (hdg : decode c.code g.pc = .ok (.invokestatic index, 3))
    (hpre : ∀ vm₁, s.WarmedH vm₁ → Pre ⟨T.setVm vm₁, locs, cells, slots⟩ argsL.toArray) :
    ∃ (v : Option Value) (vm₁ : Vm) (B : Pt), s.WarmedH vm₁ ∧ Stand p l e R s m args below meth c B.U B.locs B.cells B.slots ∧ Post ⟨T.setVm vm₁, locs, cells, slots⟩ argsL.toArray v B ∧
      ∀ target, Steps p.tables e below (B.U.setTop { g with pc := g.pc + 3, stack := v.toList ++ rest }) target → Steps p.tables e below (T.setTop g) target := by
  obtain ⟨mk, methM, cM, hnamed, hmethM, -, -, -, -, -, -, hsigM⟩ := Cond.codeWith_spec hcode
  have hstatic : methM.isStatic = true := Cond.static_spec hnamed hmethM hstat
  obtain ⟨kP, hkP, -⟩ := className_of_methodNamed hnamed
  have hinitP : kP.init = .initialized := Cond.initialized_spec (findClass_of_methodNamed hnamed) hkP hinit
  obtain ⟨vm₁, X₁, hstep₁⟩ := X.invokestatic hexec hown hlink hnamed hmethM hstatic hkP hinitP hy (g := g) hg (argsL := argsL) (rest := rest) (hlen _ hsigM) hstack hdg
  obtain ⟨v, B, X', hpost, hsteps⟩ := hK m meth c ⟨T.setVm vm₁, locs, cells, slots⟩ { g with stack := rest } (.invokestatic index) mk argsL.toArray X₁ hg hsize hdg hW (X₁.named hnamed) (hpre vm₁ X₁.warmed)
  exact ⟨v, vm₁, B, X₁.warmed, X', hpost, fun target h => hstep₁ _ fun acts => by rw [doInvoke_state]; exact hsteps.trans h⟩
theorem vx_runSW {y : MethodName} {bytes cc : ByteArray} {maxL nL mc ms n index : Nat} {ret : Option FieldType} {hh : List (Nat × Nat × Nat × Nat)} {ws : List Cond} {rm : Room} {Pc : Array Value → State → Prop} {Qc : Array Value → State → Outcome → State → Prop} {free : Addr → Prop} {Ts : List Cond} {own : String} {As rest : List Value} {g : JFrame}
    (S : CallFix p m c cc nL s args Ts own) (hM : Met l y ws rm Pc Qc mc ms free) (cw : vx_CSW R s args own index y bytes maxL ret hh ws rm mc ms n) (hp : PreS s H Pc As)
    (hg : g.method = m) (hn : As.length = n) (hsize : g.locals.size = nL) (hstack : g.stack = As.reverse ++ rest) (hW : 2 * g.monitorRoom + (rest.map fun v => v.category).sum ≤ 8) (hdg : decode cc g.pc = .ok (.invokestatic index, 3)) (hf : cells + mc ≤ R.cells ∧ slots + ms ≤ R.slots) :
    va_Run p l e R s m args below meth c H locs cells slots mc ms g rest (Qc As.toArray) (free) := by
  obtain ⟨⟨hrc, hrs, hfr, hlo, hws, hcw⟩, hcode, hini, hy, hlen, hl, hstt⟩ := cw
  have hK : Back l R p e below s args y 3 8 (PreOf R mc ms Pc) (PostOf Qc mc ms free) := va_backW (hh := hh) (bytes := bytes) (maxL := maxL) (ret := ret) hM hp.1 hrc hrs hfr hlo hws hcw (fun a' U hW => word_at hW (Or.inl (by first | rfl | simp [Cond.onTables, Cond.keeps, Cond.steady])) hini)
  obtain ⟨hx, hb, hml, ho, -⟩ := S
  intro T hT X
  obtain ⟨v, vm₁, ⟨U', l2, c2, s2⟩, hW₁, X', ⟨g', mk, t, L, e1, e2, hq, h1, hL, h2, h3⟩, st⟩ := vx_callSW X hx (hh := hh) (bytes := bytes) (maxL := maxL) (ret := ret) ho hl hstt hini hcode hy hK hg (hsize.trans hml.symm) (argsL := As) (rest := rest) (fun sig h => hn.trans (hlen sig h)) hstack hW (by rw [hb]; exact hdg)
    (fun vm₁ hW₁ => ⟨hf.1, hf.2, hp.2 (T.setVm vm₁) hT hW₁⟩)
  dsimp only [Pt.U, Pt.locs, Pt.cells, Pt.slots] at X' e1 e2 h1 h2 h3 st
  subst h1; subst h2; subst h3
  exact ⟨v, (T.setVm vm₁).calling g' mk As.toArray, t, U', L, hT, X', hL, e1, e2, hq, st⟩
/-- not caught here, past rows that name other classes: it goes on to the caller -/
theorem vx_outP {p : Program} {l : Launch} {e : Env} {R : Room} {s : State} {m : MethodId} {args : Array Value} {below : List Frame} {meth : Method} {c : Code} {H : Heap} {locs : List Loc} {cells slots : Nat} {free : Addr → Prop} {ls : Array Slot} {rest : List Value} {Qc : Array Value → State → Outcome → State → Prop} {XC : String → State → State → Prop}
    {pc : Nat} {own E : String} {ce : Cell} {q : Addr} {mc ms : Nat} (hown : s.vm.findClass own = some m.cls) (hlocks : meth.locks = false)
    (hpass : ∀ z ∈ c.exceptionTable.toList, covers z pc = false ∨ (z.catchType ≠ 0 ∧ ∃ nm : String, (Cond.classLink own z.catchType nm).before args s = true ∧ va_Nc E nm s)) (hcell : H[q]? = some ce) (hv : ce.vm = .none) (hcl : s.vm.findClass E = some ce.cls)
    (hx : ∀ t : State, t.heap = H → s.vm.Alike t.vm → XC E s t) (hf : ∀ z ∈ locs, free z.base) (hc : cells ≤ mc) (hs : slots ≤ ms) :
    vx_W p l e R s m args below meth c H locs cells slots (vx_MQ below Qc XC args s mc ms free) (F0 m pc ls rest) q := by
  intro T hT X
  have hpl : e.platform.magicAccessors = ({} : Platform).magicAccessors := by rw [X.admits.platform]
  obtain ⟨vm', hW', X', st⟩ := X.outThrough hlocks q (g := F0 m pc ls rest) rfl rfl rfl (cell := ce) (by rw [hT]; exact hcell) (by rw [hv]; rfl)
    (by obtain ⟨k9, h9, -⟩ := Vm.findClass_spec hcl; exact ⟨k9, h9⟩) (fun z hz => by
      rcases hpass z hz with h | ⟨hz0, nm, hl1, hn1⟩
      · exact Or.inl h
      · obtain ⟨c6, hc6, hcl6⟩ := Cond.classLink_spec hown hl1 e.platform hpl
        obtain ⟨a8, b8, h1, h2, h3⟩ := hn1
        cases Option.some.inj (h1.symm.trans hcl)
        cases Option.some.inj (h2.symm.trans hc6)
        exact Or.inr ⟨hz0, _, hcl6, h3⟩)
  obtain ⟨g₀, hfr⟩ := X'.frames_eq
  have hcell9 : ((T.setVm vm').setFrames (.throwing q :: below)).heap[q]? = some ce := by
    show T.heap[q]? = some ce
    rw [hT]; exact hcell
  have hend : Ended ((T.setVm vm').setFrames (.throwing q :: below)) below (.threw q) := State.frames_setFrames _ (State.cur_lt_of_frames hfr)
  refine ⟨(T.setVm vm').setFrames (.throwing q :: below), ?_, .threw q, X'.here.running, hend, Or.inr ⟨q, rfl, E, ce, locs, hx _ hT (X'.ends _).1.alike, hcell9, hv, hcl, (X'.ends _).1, (X'.ends _).2.mono hc hs, hf⟩⟩
  rw [X.pushThrowing_eq]
  exact st
/-- a thing of a world lies in the heap -/
theorem vx_lt {D : va_G} {cl : List vw_C} {ws : va_W} {H1 : Heap} (h : va_P D cl ws H1) {k : Nat} {q : Nat × va_E} (hk : ws[k]? = some q) : q.1 < H1.size := (h k q hk).lt
end VXS
/-! ===== END ===== -/
/-! ===== BEGIN methods with a table of their own: called by a name, returning or throwing ===== -/
section VXH
/-! vx_backW, vx_callVX, vx_callSX, vx_callVW, vx_runVW, vx_runVX, vx_runSX, vx_ofWH follow the same proofs as their sisters above (Free/Laws.lean, Shelf42/LK1.lean); vx_outP calls Shelf42/NT130.lean (outThrough). -/
section
variable {l : Launch} {R : Room} {p : Program} {e : Env} {below : List Frame} {s : State} {sargs : Array Value} {y : MethodName} {len W9 : Nat}
theorem vx_backW {ws : List Cond} {rm : Room} {Pc : Array Value → State → Prop} {Qc : Array Value → State → Outcome → State → Prop} {XC : String → State → State → Prop} {mc ms : Nat} {free : Addr → Prop} {bytes : ByteArray} {maxL : Nat} {ret : Option FieldType} {hh : List (Nat × Nat × Nat × Nat)}
    (hM : vx_Met l y ws rm Pc Qc XC mc ms free) (hblind : FrameBlind Pc) (hrc : rm.cells = mc) (hrs : rm.slots = ms)
    (hframes : rm.frames + 1 ≤ R.frames) (hlocals : W9 + (maxL + 11) + rm.locals ≤ R.locals)
    (hws : ∀ w ∈ ws, ∀ a' U, s.WarmedH U.vm → w.before a' U = true) (hcode : Cond.codeWith y bytes maxL ret hh ∈ ws) (hinit : ∀ a' U, s.WarmedH U.vm → (Cond.initialized y.cls).before a' U = true) :
    vx_Back l R p e below s sargs y len W9 (PreOf R mc ms Pc) (PostOf Qc mc ms free) (vx_Post XC mc ms free) := by
  intro m meth c A g ig mk a X hg hsize hdg hW hn hp
  have h1 : (headSpec ws rm).pre.before a A.U = true := atoms_intro fun w hw => hws w hw _ _ X.warmed
  have h2 : (Cond.codeWith y bytes maxL ret hh).before a A.U = true := hws _ hcode _ _ X.warmed
  have h3 : (Cond.initialized y.cls).before a A.U = true := hinit _ _ X.warmed
  have h4 : A.cells + (headSpec ws rm).room.cells ≤ R.cells := by rw [show (headSpec ws rm).room.cells = mc from hrc]; exact hp.1
  have h5 : A.slots + (headSpec ws rm).room.slots ≤ R.slots := by rw [show (headSpec ws rm).room.slots = ms from hrs]; exact hp.2.1
  have hPc : Pc a (A.U.calling g mk a) := hblind _ _ _ _ hp.2.2
  obtain ⟨U, Ls, c0, s0⟩ := A
  dsimp only [Pt.U, Pt.locs, Pt.cells, Pt.slots] at h1 h2 h3 h4 h5 X hn hPc ⊢
  obtain ⟨m9, methY, cY, hn9, hmY, hcY, -, hlY, -⟩ := Cond.codeWith_spec h2
  cases Option.some.inj (hn9.symm.trans hn)
  obtain ⟨kY, hkY, -⟩ := className_of_methodNamed hn
  have hinitY : kY.init = .initialized := Cond.initialized_spec (findClass_of_methodNamed hn) hkY h3
  have h : At U g.method c below := by rw [hg]; exact X.here
  have hlocals9 : W9 + (maxL + 11) + (headSpec ws rm).room.locals ≤ R.locals := hlocals
  have happ : (headSpec ws rm).appliesLoose y e.platform (U.calling g mk a) = true :=
    Spec.appliesLoose_calling (g := g) h hdg hn hkY hinitY
      (X.room_calling (g := g) (R' := (headSpec ws rm).room) hsize hmY hcY hframes (by rw [hlY]; omega) h4 h5) h1
  obtain ⟨mid, hmid⟩ := h.above
  have hfr : (U.setTop g).frames = (.java g :: mid) ++ below := by rw [State.frames_setTop' g h.top, hmid]; rfl
  obtain ⟨o, s₂, hsteps, -, hend, hq⟩ := Steps.callFree hM p X.admits X.cas X.clock (acts := []) hfr happ hPc trivial
  have hq' : vx_Q Qc XC mc ms free a (U.calling g mk a) o s₂ := hq
  rw [State.frames_setTop' g h.top] at hend
  obtain ⟨g₀, hg0⟩ := Option.isSome_iff_exists.mp h.top
  obtain ⟨r, hr⟩ := State.topJava?_eq_some.mp hg0
  have hr' : (({ U with heap := s₂.heap, slotsUsed := s₂.slotsUsed } : State).setVm s₂.vm).frames = .java g₀ :: r := hr
  rcases hq' with ⟨hqc, L, hfe, hL⟩ | ⟨q, rfl, E, ce, L, hx, hce, hcv, hcl, hW₂, hsm, hL⟩
  · obtain ⟨⟨v, rfl⟩, hW₂, e2, q2, q3, q4, q5, q6⟩ := id hfe
    have e3 : s₂ = ({ (U.calling g mk a).setFrames s₂.frames with heap := s₂.heap, slotsUsed := s₂.slotsUsed } : State).setVm s₂.vm := by
      have : s₂ = ({ s₂ with vm := (U.calling g mk a).vm } : State).setVm s₂.vm := rfl
      rw [e2] at this
      exact this
    obtain ⟨c₂, i₂, len₂, hc₂, hd₂, hf₂⟩ := hend
    have hW' : U.WarmedH s₂.vm := hW₂
    have hcc : c₂ = c := by
      have h1 : s₂.code? g.method = U.code? g.method := by
        rw [State.code?_eq, State.code?_eq, hW'.alike.method?]
      exact Option.some.inj (hc₂.symm.trans (h1.trans h.code))
    subst hcc
    have hlen : len₂ = len := by rw [hdg] at hd₂; cases hd₂; rfl
    subst hlen
    have hs₂ : s₂ = (({ U with heap := s₂.heap, slotsUsed := s₂.slotsUsed } : State).setVm s₂.vm).setTop { g with pc := g.pc + len₂, stack := v.toList ++ g.stack } := by
      refine e3.trans ?_
      rw [hf₂, State.calling_eq h.top, State.setFrames_setFrames, State.setTop_of_frames _ hr', hr]
      rfl
    have hsame : U.sameButNew ({ U with heap := s₂.heap, slotsUsed := s₂.slotsUsed } : State) L mc ms := by
      refine ⟨?_, q2, q3, q4, q5, q6⟩
      obtain ⟨t, ht, -⟩ := State.frames_cons hr
      show ({ U with heap := s₂.heap, slotsUsed := s₂.slotsUsed } : State) = { U.setFrames U.frames with heap := s₂.heap, slotsUsed := s₂.slotsUsed }
      rw [State.setFrames_self ht]
    subst hg
    refine Or.inl ⟨v, ⟨(({ U with heap := s₂.heap, slotsUsed := s₂.slotsUsed } : State).setVm s₂.vm), Ls ++ L, c0 + mc, s0 + ms⟩,
      ⟨X.admits, X.cas, X.clock, X.frames, X.room, X.hears, X.method, X.code, (X.here.setHeapUsed s₂.heap s₂.slotsUsed).setVm hW'.alike, X.tail, State.WarmedH.trans X.warmed hW', X.limits, X.bytes, X.same.trans (hsame.setVm s.vm)⟩,
      ⟨g, mk, s₂, L, rfl, rfl, hqc, rfl, hL, rfl, rfl⟩, ?_⟩
    show Steps p.tables e below _ ((({ U with heap := s₂.heap, slotsUsed := s₂.slotsUsed } : State).setVm s₂.vm).setTop { g with pc := g.pc + len₂, stack := v.toList ++ g.stack })
    rw [← hs₂]
    exact hsteps
  · obtain ⟨e2, q2, q3, q4, q5, q6⟩ := id hsm
    have e3 : s₂ = ({ (U.calling g mk a).setFrames s₂.frames with heap := s₂.heap, slotsUsed := s₂.slotsUsed } : State).setVm s₂.vm := by
      have : s₂ = ({ s₂ with vm := (U.calling g mk a).vm } : State).setVm s₂.vm := rfl
      rw [e2] at this
      exact this
    have hf₂ : s₂.frames = .throwing q :: .java g :: U.frames.tail := hend
    have hW' : U.WarmedH s₂.vm := hW₂
    have hs₂ : s₂ = ((({ U with heap := s₂.heap, slotsUsed := s₂.slotsUsed } : State).setVm s₂.vm).setTop g).pushFrame (.throwing q) := by
      refine e3.trans ?_
      rw [hf₂, State.calling_eq h.top, State.setFrames_setFrames, State.pushFrame, State.frames_setTop _ hr', State.setTop_of_frames _ hr', State.setFrames_setFrames, hr]
      rfl
    have hsame : U.sameButNew ({ U with heap := s₂.heap, slotsUsed := s₂.slotsUsed } : State) L mc ms := by
      refine ⟨?_, q2, q3, q4, q5, q6⟩
      obtain ⟨t, ht, -⟩ := State.frames_cons hr
      show ({ U with heap := s₂.heap, slotsUsed := s₂.slotsUsed } : State) = { U.setFrames U.frames with heap := s₂.heap, slotsUsed := s₂.slotsUsed }
      rw [State.setFrames_self ht]
    subst hg
    refine Or.inr ⟨q, ⟨(({ U with heap := s₂.heap, slotsUsed := s₂.slotsUsed } : State).setVm s₂.vm), Ls ++ L, c0 + mc, s0 + ms⟩,
      ⟨X.admits, X.cas, X.clock, X.frames, X.room, X.hears, X.method, X.code, (X.here.setHeapUsed s₂.heap s₂.slotsUsed).setVm hW'.alike, X.tail, State.WarmedH.trans X.warmed hW', X.limits, X.bytes, X.same.trans (hsame.setVm s.vm)⟩,
      ⟨g, mk, s₂, L, E, ce, rfl, rfl, hx, hce, hcv, hcl, rfl, hL, rfl, rfl⟩, ?_⟩
    show Steps p.tables e below _ (((({ U with heap := s₂.heap, slotsUsed := s₂.slotsUsed } : State).setVm s₂.vm).setTop g).pushFrame (.throwing q))
    rw [← hs₂]
    exact hsteps
end
variable {p : Program} {l : Launch} {e : Env} {R : Room} {s : State} {m : MethodId} {args : Array Value} {below : List Frame} {meth : Method} {c : Code} {T : State} {H : Heap} {locs : List Loc} {cells slots : Nat}
theorem vx_callVX (X : Stand p l e R s m args below meth c T locs cells slots) (hexec : p.tables.exec = Jvm.exec) {own C : String} {index : Nat} {y : MethodName} {bytes : ByteArray} {maxL : Nat} {ret : Option FieldType} {hh : List (Nat × Nat × Nat × Nat)}
    (hown : s.vm.findClass own = some m.cls) (hlink : (Cond.methodLink own index y).before args s = true) (hinst : (Cond.instanceMethod y).before args s = true) (hsel : (Cond.selects C y y).before args s = true)
    (hcode : (Cond.codeWith y bytes maxL ret hh).before args s = true) (hy : y.cls ≠ "java/lang/invoke/MethodHandle" ∧ y.cls ≠ "java/lang/invoke/VarHandle")
    {W9 : Nat} {Pre : Pt → Array Value → Prop} {Post : Pt → Array Value → Option Value → Pt → Prop} {PostX : Pt → Array Value → Addr → Pt → Prop} (hK : vx_Back l R p e below s args y 3 W9 Pre Post PostX)
    {b : Addr} {cellB : Cell} (hcell : T.heap[b]? = some cellB) (hobj : cellB.vm.isStatics = false) (hcls : s.vm.findClass C = some cellB.cls)
    {g : JFrame} (hg : g.method = m) (hsize : g.locals.size = c.maxLocals) {argsL rest : List Value} (hlen : ∀ sig, parseMethodDescriptor y.desc = some sig → argsL.length = sig.parameters.length)
    (hstack : g.stack = argsL.reverse ++ .ref b :: rest) (hW : 2 * g.monitorRoom + (rest.map fun v => v.category).sum ≤ W9) (hdg : decode c.code g.pc = .ok (.invokevirtual index, 3))
    (hpre : ∀ vm₁, s.WarmedH vm₁ → Pre ⟨T.setVm vm₁, locs, cells, slots⟩ (Value.ref b :: argsL).toArray) :
    (∃ (v : Option Value) (vm₁ : Vm) (B : Pt), s.WarmedH vm₁ ∧ Stand p l e R s m args below meth c B.U B.locs B.cells B.slots ∧ Post ⟨T.setVm vm₁, locs, cells, slots⟩ (Value.ref b :: argsL).toArray v B ∧
      ∀ target, Steps p.tables e below (B.U.setTop { g with pc := g.pc + 3, stack := v.toList ++ rest }) target → Steps p.tables e below (T.setTop g) target) ∨
    (∃ (q : Addr) (vm₁ : Vm) (B : Pt), s.WarmedH vm₁ ∧ Stand p l e R s m args below meth c B.U B.locs B.cells B.slots ∧ PostX ⟨T.setVm vm₁, locs, cells, slots⟩ (Value.ref b :: argsL).toArray q B ∧
      Steps p.tables e below (T.setTop g) ((B.U.setTop { g with stack := rest }).pushFrame (.throwing q))) := by
  obtain ⟨mk, methM, hnamed, hmethM, hstM, habM⟩ := Cond.instanceMethod_spec hinst
  obtain ⟨m8, methM', cM, hn8, hmethM', -, -, -, -, -, -, hsigM⟩ := Cond.codeWith_spec hcode
  cases Option.some.inj (hn8.symm.trans hnamed)
  cases hmethM.symm.trans hmethM'
  obtain ⟨c2, r2, m2, q1, q2, q3, q4, kP, hkP, hkPi⟩ := Cond.selects_spec hsel
  cases hcls.symm.trans q1
  cases (State.methodFound?_of_named hnamed hy).symm.trans q2
  cases hnamed.symm.trans q3
  have hselP : selectMethod e.platform s.vm cellB.cls mk = .method mk := by rw [Launch.admits_selectMethod X.admits]; exact q4
  obtain ⟨vm₁, X₁, hstep₁⟩ := X.invokevirtual hexec hown hlink hnamed hmethM hstM hkP hkPi hy (a := b) (cell := cellB) hcell
    (fun z h => by rw [h] at hobj; cases hobj) hselP hmethM habM hkP hkPi (g := g) hg (argsL := argsL) (rest := rest) (hlen _ hsigM) hstack hdg
  rcases hK m meth c ⟨T.setVm vm₁, locs, cells, slots⟩ { g with stack := rest } (.invokevirtual index) mk (Value.ref b :: argsL).toArray X₁ hg hsize hdg hW (X₁.named hnamed) (hpre vm₁ X₁.warmed) with ⟨v, B, X', hpost, hsteps⟩ | ⟨q, B, X', hpost, hsteps⟩
  · exact Or.inl ⟨v, vm₁, B, X₁.warmed, X', hpost, fun target h => hstep₁ _ fun acts => by rw [doInvoke_state]; exact hsteps.trans h⟩
  · exact Or.inr ⟨q, vm₁, B, X₁.warmed, X', hpost, hstep₁ _ fun acts => by rw [doInvoke_state]; exact hsteps⟩
theorem vx_callSX (X : Stand p l e R s m args below meth c T locs cells slots) (hexec : p.tables.exec = Jvm.exec) {own : String} {index : Nat} {y : MethodName} {bytes : ByteArray} {maxL : Nat} {ret : Option FieldType} {hh : List (Nat × Nat × Nat × Nat)}
    (hown : s.vm.findClass own = some m.cls) (hlink : (Cond.methodLink own index y).before args s = true) (hstat : (Cond.static y).before args s = true) (hinit : (Cond.initialized y.cls).before args s = true)
    (hcode : (Cond.codeWith y bytes maxL ret hh).before args s = true) (hy : y.cls ≠ "java/lang/invoke/MethodHandle" ∧ y.cls ≠ "java/lang/invoke/VarHandle")
    {W9 : Nat} {Pre : Pt → Array Value → Prop} {Post : Pt → Array Value → Option Value → Pt → Prop} {PostX : Pt → Array Value → Addr → Pt → Prop} (hK : vx_Back l R p e below s args y 3 W9 Pre Post PostX)
    {g : JFrame} (hg : g.method = m) (hsize : g.locals.size = c.maxLocals) {argsL rest : List Value} (hlen : ∀ sig, parseMethodDescriptor y.desc = some sig → argsL.length = sig.parameters.length)
    (hstack : g.stack = argsL.reverse ++ rest) (hW : 2 * g.monitorRoom + (rest.map fun v => v.category).sum ≤ W9) (hdg : decode c.code g.pc = .ok (.invokestatic index, 3))
    (hpre : ∀ vm₁, s.WarmedH vm₁ → Pre ⟨T.setVm vm₁, locs, cells, slots⟩ argsL.toArray) :
    (∃ (v : Option Value) (vm₁ : Vm) (B : Pt), s.WarmedH vm₁ ∧ Stand p l e R s m args below meth c B.U B.locs B.cells B.slots ∧ Post ⟨T.setVm vm₁, locs, cells, slots⟩ argsL.toArray v B ∧
      ∀ target, Steps p.tables e below (B.U.setTop { g with pc := g.pc + 3, stack := v.toList ++ rest }) target → Steps p.tables e below (T.setTop g) target) ∨
    (∃ (q : Addr) (vm₁ : Vm) (B : Pt), s.WarmedH vm₁ ∧ Stand p l e R s m args below meth c B.U B.locs B.cells B.slots ∧ PostX ⟨T.setVm vm₁, locs, cells, slots⟩ argsL.toArray q B ∧
      Steps p.tables e below (T.setTop g) ((B.U.setTop { g with stack := rest }).pushFrame (.throwing q))) := by
  obtain ⟨mk, methM, cM, hnamed, hmethM, -, -, -, -, -, -, hsigM⟩ := Cond.codeWith_spec hcode
  have hstatic : methM.isStatic = true := Cond.static_spec hnamed hmethM hstat
  obtain ⟨kP, hkP, -⟩ := className_of_methodNamed hnamed
  have hinitP : kP.init = .initialized := Cond.initialized_spec (findClass_of_methodNamed hnamed) hkP hinit
  obtain ⟨vm₁, X₁, hstep₁⟩ := X.invokestatic hexec hown hlink hnamed hmethM hstatic hkP hinitP hy (g := g) hg (argsL := argsL) (rest := rest) (hlen _ hsigM) hstack hdg
  rcases hK m meth c ⟨T.setVm vm₁, locs, cells, slots⟩ { g with stack := rest } (.invokestatic index) mk argsL.toArray X₁ hg hsize hdg hW (X₁.named hnamed) (hpre vm₁ X₁.warmed) with ⟨v, B, X', hpost, hsteps⟩ | ⟨q, B, X', hpost, hsteps⟩
  · exact Or.inl ⟨v, vm₁, B, X₁.warmed, X', hpost, fun target h => hstep₁ _ fun acts => by rw [doInvoke_state]; exact hsteps.trans h⟩
  · exact Or.inr ⟨q, vm₁, B, X₁.warmed, X', hpost, hstep₁ _ fun acts => by rw [doInvoke_state]; exact hsteps⟩
theorem vx_callVW (X : Stand p l e R s m args below meth c T locs cells slots) (hexec : p.tables.exec = Jvm.exec) {own C : String} {index : Nat} {y : MethodName} {bytes : ByteArray} {maxL : Nat} {ret : Option FieldType} {hh : List (Nat × Nat × Nat × Nat)}
    (hown : s.vm.findClass own = some m.cls) (hlink : (Cond.methodLink own index y).before args s = true) (hinst : (Cond.instanceMethod y).before args s = true) (hsel : (Cond.selects C y y).before args s = true)
    (hcode : (Cond.codeWith y bytes maxL ret hh).before args s = true) (hy : y.cls ≠ "java/lang/invoke/MethodHandle" ∧ y.cls ≠ "java/lang/invoke/VarHandle")
    {W9 : Nat} {Pre : Pt → Array Value → Prop} {Post : Pt → Array Value → Option Value → Pt → Prop} (hK : Back l R p e below s args y 3 W9 Pre Post)
    {b : Addr} {cellB : Cell} (hcell : T.heap[b]? = some cellB) (hobj : cellB.vm.isStatics = false) (hcls : s.vm.findClass C = some cellB.cls)
    {g : JFrame} (hg : g.method = m) (hsize : g.locals.size = c.maxLocals) {argsL rest : List Value} (hlen : ∀ sig, parseMethodDescriptor y.desc = some sig → argsL.length = sig.parameters.length)
    (hstack : g.stack = argsL.reverse ++ .ref b :: rest) (hW : 2 * g.monitorRoom + (rest.map fun v => v.category).sum ≤ W9) (hdg : decode c.code g.pc = .ok (.invokevirtual index, 3))
    (hpre : ∀ vm₁, s.WarmedH vm₁ → Pre ⟨T.setVm vm₁, locs, cells, slots⟩ (Value.ref b :: argsL).toArray) :
    ∃ (v : Option Value) (vm₁ : Vm) (B : Pt), s.WarmedH vm₁ ∧ Stand p l e R s m args below meth c B.U B.locs B.cells B.slots ∧ Post ⟨T.setVm vm₁, locs, cells, slots⟩ (Value.ref b :: argsL).toArray v B ∧
      ∀ target, Steps p.tables e below (B.U.setTop { g with pc := g.pc + 3, stack := v.toList ++ rest }) target → Steps p.tables e below (T.setTop g) target := by
  obtain ⟨mk, methM, hnamed, hmethM, hstM, habM⟩ := Cond.instanceMethod_spec hinst
  obtain ⟨m8, methM', cM, hn8, hmethM', -, -, -, -, -, -, hsigM⟩ := Cond.codeWith_spec hcode
  cases Option.some.inj (hn8.symm.trans hnamed)
  cases hmethM.symm.trans hmethM'
  obtain ⟨c2, r2, m2, q1, q2, q3, q4, kP, hkP, hkPi⟩ := Cond.selects_spec hsel
  cases hcls.symm.trans q1
  cases (State.methodFound?_of_named hnamed hy).symm.trans q2
  cases hnamed.symm.trans q3
  have hselP : selectMethod e.platform s.vm cellB.cls mk = .method mk := by rw [Launch.admits_selectMethod X.admits]; exact q4
  obtain ⟨vm₁, X₁, hstep₁⟩ := X.invokevirtual hexec hown hlink hnamed hmethM hstM hkP hkPi hy (a := b) (cell := cellB) hcell
    (fun z h => by rw [h] at hobj; cases hobj) hselP hmethM habM hkP hkPi (g := g) hg (argsL := argsL) (rest := rest) (hlen _ hsigM) hstack hdg
  obtain ⟨v, B, X', hpost, hsteps⟩ := hK m meth c ⟨T.setVm vm₁, locs, cells, slots⟩ { g with stack := rest } (.invokevirtual index) mk (Value.ref b :: argsL).toArray X₁ hg hsize hdg hW (X₁.named hnamed) (hpre vm₁ X₁.warmed)
  exact ⟨v, vm₁, B, X₁.warmed, X', hpost, fun target h => hstep₁ _ fun acts => by rw [doInvoke_state]; exact hsteps.trans h⟩
abbrev vx_CVW (R : Room) (s : State) (args : Array Value) (own C : String) (index : Nat) (y : MethodName) (bytes : ByteArray) (maxL : Nat) (ret : Option FieldType) (hh : List (Nat × Nat × Nat × Nat)) (ws : List Cond) (rm : Room) (mc ms n : Nat) : Prop :=
  (rm.cells = mc ∧ rm.slots = ms ∧ rm.frames + 1 ≤ R.frames ∧ 8 + (maxL + 11) + rm.locals ≤ R.locals ∧ (∀ w ∈ ws, ∀ (a' : Array Value) (U : State), s.WarmedH U.vm → w.before a' U = true) ∧ Cond.codeWith y bytes maxL ret hh ∈ ws) ∧
  (Cond.codeWith y bytes maxL ret hh).before args s = true ∧ (Cond.initialized y.cls).before args s = true ∧ (y.cls ≠ "java/lang/invoke/MethodHandle" ∧ y.cls ≠ "java/lang/invoke/VarHandle") ∧
  (∀ sig, parseMethodDescriptor y.desc = some sig → n = sig.parameters.length) ∧ (Cond.methodLink own index y).before args s = true ∧ (Cond.instanceMethod y).before args s = true ∧ (Cond.selects C y y).before args s = true
theorem vx_cwVW {own C : String} {index maxL mc ms : Nat} {y : MethodName} {bytes : ByteArray} {ret : Option FieldType} {hh : List (Nat × Nat × Nat × Nat)} {Ts ws ws' : List Cond} {rm : Room} (n : Nat) (ht : ∀ w ∈ Ts, w.before args s = true) (hT : GoodIn Ts (wsV own index C y ws)) (hw : ws = Cond.codeWith y bytes maxL ret hh :: ws') (hrc : rm.cells = mc) (hrs : rm.slots = ms)
    (hd : y.cls = C ∧ y.cls ≠ "java/lang/invoke/MethodHandle" ∧ y.cls ≠ "java/lang/invoke/VarHandle" ∧ (parseMethodDescriptor y.desc).map (fun d => d.parameters.length) = some n) (hR : rm.frames + 1 ≤ R.frames ∧ 8 + (maxL + 11) + rm.locals ≤ R.locals) :
    vx_CVW R s args own C index y bytes maxL ret hh ws rm mc ms n := by
  obtain ⟨hC, hd⟩ := hd
  subst hC
  have ok : ∀ w ∈ wsV own index y.cls y ws, w.before args s = true := fun w h => ht w (hT w h).1
  have hG : GoodIn Ts ws := fun w h => hT w (by unfold wsV; exact List.mem_append_right _ h)
  have hc : Cond.codeWith y bytes maxL ret hh ∈ ws := by rw [hw]; exact List.mem_cons_self
  refine ⟨⟨hrc, hrs, hR.1, hR.2, pay_in ht hG, hc⟩, ht _ (hG _ hc).1, ok _ (by simp [wsV]), ⟨hd.1, hd.2.1⟩, fun sig h => ?_, ok _ (by simp [wsV]), ok _ (by simp [wsV]), ok _ (by simp [wsV])⟩
  have h2 := hd.2.2
  rw [h] at h2
  exact (Option.some.inj h2).symm
theorem vx_runVW {y : MethodName} {bytes cc : ByteArray} {maxL nL mc ms n index : Nat} {ret : Option FieldType} {hh : List (Nat × Nat × Nat × Nat)} {ws : List Cond} {rm : Room} {Pc : Array Value → State → Prop} {Qc : Array Value → State → Outcome → State → Prop} {free : Addr → Prop} {Ts : List Cond} {own C : String} {b : Addr} {As rest : List Value} {g : JFrame}
    (S : CallFix p m c cc nL s args Ts own) (hM : Met l y ws rm Pc Qc mc ms free) (cw : vx_CVW R s args own C index y bytes maxL ret hh ws rm mc ms n) (hp : PreV s H C b Pc As)
    (hg : g.method = m) (hn : As.length = n) (hsize : g.locals.size = nL) (hstack : g.stack = As.reverse ++ .ref b :: rest) (hW : 2 * g.monitorRoom + (rest.map fun v => v.category).sum ≤ 8) (hdg : decode cc g.pc = .ok (.invokevirtual index, 3)) (hf : cells + mc ≤ R.cells ∧ slots + ms ≤ R.slots) :
    va_Run p l e R s m args below meth c H locs cells slots mc ms g rest (Qc (Value.ref b :: As).toArray) free := by
  obtain ⟨⟨hrc, hrs, hfr, hlo, hws, hcw⟩, hcode, hini, hy, hlen, hl, hin, hse⟩ := cw
  have hK : Back l R p e below s args y 3 8 (PreOf R mc ms Pc) (PostOf Qc mc ms free) := va_backW (hh := hh) (bytes := bytes) (maxL := maxL) (ret := ret) hM hp.1 hrc hrs hfr hlo hws hcw (fun a' U hW => word_at hW (Or.inl (by first | rfl | simp [Cond.onTables, Cond.keeps, Cond.steady])) hini)
  obtain ⟨hx, hb, hml, ho, -⟩ := S
  obtain ⟨-, ⟨cellB, hcB, hoB, hclB⟩, hPc⟩ := hp
  intro T hT X
  obtain ⟨v, vm₁, ⟨U', l2, c2, s2⟩, hW₁, X', ⟨g', mk, t, L, e1, e2, hq, h1, hL, h2, h3⟩, st⟩ := vx_callVW X hx (C := C) (hh := hh) (bytes := bytes) (maxL := maxL) (ret := ret) ho hl hin hse hcode hy hK (by rw [hT]; exact hcB) hoB hclB hg (hsize.trans hml.symm) (argsL := As) (rest := rest) (fun sig h => hn.trans (hlen sig h)) hstack hW (by rw [hb]; exact hdg)
    (fun vm₁ hW₁ => ⟨hf.1, hf.2, hPc (T.setVm vm₁) hT hW₁⟩)
  dsimp only [Pt.U, Pt.locs, Pt.cells, Pt.slots] at X' e1 e2 h1 h2 h3 st
  subst h1; subst h2; subst h3
  exact ⟨v, (T.setVm vm₁).calling g' mk (Value.ref b :: As).toArray, t, U', L, hT, X', hL, e1, e2, hq, st⟩
section
variable {y : MethodName} {bytes cc : ByteArray} {maxL nL mc ms n index : Nat} {ret : Option FieldType} {ws : List Cond} {rm : Room} {Pc : Array Value → State → Prop} {Qc : Array Value → State → Outcome → State → Prop} {XC : String → State → State → Prop} {free : Addr → Prop} {Ts : List Cond} {own C : String} {b : Addr} {As rest : List Value} {g : JFrame}
theorem vx_runVX {hh : List (Nat × Nat × Nat × Nat)} (S : CallFix p m c cc nL s args Ts own) (hM : vx_Met l y ws rm Pc Qc XC mc ms free) (cw : vx_CVW R s args own C index y bytes maxL ret hh ws rm mc ms n) (hp : PreV s H C b Pc As)
    (hg : g.method = m) (hn : As.length = n) (hsize : g.locals.size = nL) (hstack : g.stack = As.reverse ++ .ref b :: rest) (hW : 2 * g.monitorRoom + (rest.map fun v => v.category).sum ≤ 8) (hdg : decode cc g.pc = .ok (.invokevirtual index, 3)) (hf : cells + mc ≤ R.cells ∧ slots + ms ≤ R.slots) :
    vx_Run p l e R s m args below meth c H locs cells slots mc ms g rest (Qc (Value.ref b :: As).toArray) XC free := by
  obtain ⟨⟨hrc, hrs, hfr, hlo, hws, hcw⟩, hcode, hini, hy, hlen, hl, hin, hse⟩ := cw
  have hK : vx_Back l R p e below s args y 3 8 (PreOf R mc ms Pc) (PostOf Qc mc ms free) (vx_Post XC mc ms free) := vx_backW (hh := hh) (bytes := bytes) (maxL := maxL) (ret := ret) hM hp.1 hrc hrs hfr hlo hws hcw (fun a' U hW => word_at hW (Or.inl (by first | rfl | simp [Cond.onTables, Cond.keeps, Cond.steady])) hini)
  obtain ⟨hx, hb, hml, ho, -⟩ := S
  obtain ⟨-, ⟨cellB, hcB, hoB, hclB⟩, hPc⟩ := hp
  intro T hT X
  rcases vx_callVX X hx (C := C) (hh := hh) (bytes := bytes) (maxL := maxL) (ret := ret) ho hl hin hse hcode hy hK (by rw [hT]; exact hcB) hoB hclB hg (hsize.trans hml.symm) (argsL := As) (rest := rest) (fun sig h => hn.trans (hlen sig h)) hstack hW (by rw [hb]; exact hdg)
    (fun vm₁ hW₁ => ⟨hf.1, hf.2, hPc (T.setVm vm₁) hT hW₁⟩) with ⟨v, vm₁, ⟨U', l2, c2, s2⟩, hW₁, X', ⟨g', mk, t, L, e1, e2, hq, h1, hL, h2, h3⟩, st⟩ | ⟨q, vm₁, ⟨U', l2, c2, s2⟩, hW₁, X', ⟨g', mk, t, L, E, ce, e1, e2, hq, hce, hcv, hcl, h1, hL, h2, h3⟩, st⟩
  · dsimp only [Pt.U, Pt.locs, Pt.cells, Pt.slots] at X' e1 e2 h1 h2 h3 st
    subst h1; subst h2; subst h3
    exact Or.inl ⟨v, (T.setVm vm₁).calling g' mk (Value.ref b :: As).toArray, t, U', L, hT, X', hL, e1, e2, hq, st⟩
  · dsimp only [Pt.U, Pt.locs, Pt.cells, Pt.slots] at X' e1 e2 h1 h2 h3 st hcl
    subst h1; subst h2; subst h3
    exact Or.inr ⟨q, (T.setVm vm₁).calling g' mk (Value.ref b :: As).toArray, t, U', L, E, ce, hT, X', hL, e1, e2, hq, hce, hcv, vx_cls hW₁ hcl, st⟩
theorem vx_runSX {hh : List (Nat × Nat × Nat × Nat)} (S : CallFix p m c cc nL s args Ts own) (hM : vx_Met l y ws rm Pc Qc XC mc ms free) (cw : vx_CSW R s args own index y bytes maxL ret hh ws rm mc ms n) (hp : PreS s H Pc As)
    (hg : g.method = m) (hn : As.length = n) (hsize : g.locals.size = nL) (hstack : g.stack = As.reverse ++ rest) (hW : 2 * g.monitorRoom + (rest.map fun v => v.category).sum ≤ 8) (hdg : decode cc g.pc = .ok (.invokestatic index, 3)) (hf : cells + mc ≤ R.cells ∧ slots + ms ≤ R.slots) :
    vx_Run p l e R s m args below meth c H locs cells slots mc ms g rest (Qc As.toArray) XC free := by
  obtain ⟨⟨hrc, hrs, hfr, hlo, hws, hcw⟩, hcode, hini, hy, hlen, hl, hstt⟩ := cw
  have hK : vx_Back l R p e below s args y 3 8 (PreOf R mc ms Pc) (PostOf Qc mc ms free) (vx_Post XC mc ms free) := vx_backW (hh := hh) (bytes := bytes) (maxL := maxL) (ret := ret) hM hp.1 hrc hrs hfr hlo hws hcw (fun a' U hW => word_at hW (Or.inl (by first | rfl | simp [Cond.onTables, Cond.keeps, Cond.steady])) hini)
  obtain ⟨hx, hb, hml, ho, -⟩ := S
  intro T hT X
  rcases vx_callSX X hx (hh := hh) (bytes := bytes) (maxL := maxL) (ret := ret) ho hl hstt hini hcode hy hK hg (hsize.trans hml.symm) (argsL := As) (rest := rest) (fun sig h => hn.trans (hlen sig h)) hstack hW (by rw [hb]; exact hdg)
    (fun vm₁ hW₁ => ⟨hf.1, hf.2, hp.2 (T.setVm vm₁) hT hW₁⟩) with ⟨v, vm₁, ⟨U', l2, c2, s2⟩, hW₁, X', ⟨g', mk, t, L, e1, e2, hq, h1, hL, h2, h3⟩, st⟩ | ⟨q, vm₁, ⟨U', l2, c2, s2⟩, hW₁, X', ⟨g', mk, t, L, E, ce, e1, e2, hq, hce, hcv, hcl, h1, hL, h2, h3⟩, st⟩
  · dsimp only [Pt.U, Pt.locs, Pt.cells, Pt.slots] at X' e1 e2 h1 h2 h3 st
    subst h1; subst h2; subst h3
    exact Or.inl ⟨v, (T.setVm vm₁).calling g' mk As.toArray, t, U', L, hT, X', hL, e1, e2, hq, st⟩
  · dsimp only [Pt.U, Pt.locs, Pt.cells, Pt.slots] at X' e1 e2 h1 h2 h3 st hcl
    subst h1; subst h2; subst h3
    exact Or.inr ⟨q, (T.setVm vm₁).calling g' mk As.toArray, t, U', L, E, ce, hT, X', hL, e1, e2, hq, hce, hcv, vx_cls hW₁ hcl, st⟩
end
end VXH
theorem vx_ofWH {l : Launch} {y : MethodName} {ws ws' : List Cond} {rm : Room} {Pc : Array Value → State → Prop} {Qc : Array Value → State → Outcome → State → Prop} {XC : String → State → State → Prop} {mc ms : Nat} {free : Addr → Prop} {cc : ByteArray} {maxL : Nat} {ret : Option FieldType} {hh : List (Nat × Nat × Nat × Nat)}
    (hy : plainName y.cls = true) (hw : ws = Cond.codeWith y cc maxL ret hh :: ws')
    (body : ∀ p e s m args below meth c s₁, BodyLoose p l y (headSpec ws rm) cc maxL ret e s m args below meth c s₁ → c.maxLocals = maxL → Pc args s →
      W p l e (headSpec ws rm).room s m args below meth c s.heap [] 0 0 (vx_MQ below Qc XC args s mc ms free) (entryFrame m args maxL)) : vx_Met l y ws rm Pc Qc XC mc ms free := by
  refine MetFree.of_bodyS (code := cc) (maxLocals := maxL) (ret := ret) hy ?_ ?_
  · intro args s m h hn
    obtain ⟨m9, meth, c, hn9, h1, h2, h3, h4, -, h5, h6, -⟩ := Cond.codeWith_spec (atoms_spec (ws := ws) h _ (by rw [hw]; exact List.mem_cons_self))
    cases hn.symm.trans hn9
    exact ⟨meth, c, h1, h2, h3, h4, h5, h6⟩
  · intro p e s m args below meth c s₁ B hml hP _
    have hh0 : s₁.heap = s.heap := by rw [B.state]; rfl
    obtain ⟨t, a1, o, b1, b2, b3⟩ := body p e s m args below meth c s₁ B hml hP s₁ hh0 (Stand.of_body B)
    exact ⟨t, o, a1, b1, b2, b3⟩
/-! ===== END ===== -/
end
section
/-! ===== BEGIN printed: names, fields, word lists, decode rows ===== -/
def RX0 : String := "Alarmgrove$Diagnoser"
def TX0 : u_T := fun k => match k with
  | 0 => ("Alarmgrove$Diagnoser", "graph", "LAlarmgrove$Graph;", true)
  | 1 => ("Alarmgrove$Diagnoser", "raised", "I", true)
  | _ => ("Alarmgrove$Diagnoser", "plausible", "I", true)
def tyX0 : Nat → FieldType := fun k => match k with
  | 0 => .object "Alarmgrove$Graph"
  | 1 => .int
  | _ => .int
abbrev wsX00 : List Cond := u_ws RX0 TX0 3
theorem nmX0 : ∀ a, a < 3 → ∀ b, b < 3 → a ≠ b → (TX0 a).2.1 ≠ (TX0 b).2.1 := by decide +kernel
theorem tyX0_ok : ∀ k, k < 3 → parseFieldDescriptor (TX0 k).2.2.1 = some (tyX0 k) := by decide +kernel
abbrev cX0_init : ByteArray := prog_2_method_1_code
def yX0_init : MethodName := ⟨RX0, "<init>", "(LAlarmgrove$Graph;I)V"⟩
abbrev cX0_plausibleNodes : ByteArray := prog_2_method_2_code
def yX0_plausibleNodes : MethodName := ⟨RX0, "plausibleNodes", "()I"⟩
abbrev cX0_bestBySearch : ByteArray := prog_2_method_3_code
def yX0_bestBySearch : MethodName := ⟨RX0, "bestBySearch", "()I"⟩
abbrev cX0_bestByTrying : ByteArray := prog_2_method_4_code
def yX0_bestByTrying : MethodName := ⟨RX0, "bestByTrying", "()I"⟩
abbrev cX0_greedyCount : ByteArray := prog_2_method_5_code
def yX0_greedyCount : MethodName := ⟨RX0, "greedyCount", "()I"⟩
abbrev cX0_greedyAt : ByteArray := prog_2_method_6_code
def yX0_greedyAt : MethodName := ⟨RX0, "greedyAt", "(I)I"⟩
abbrev cX0_greedyNext : ByteArray := prog_2_method_7_code
def yX0_greedyNext : MethodName := ⟨RX0, "greedyNext", "(I)I"⟩
abbrev cX0_search : ByteArray := prog_2_method_8_code
def yX0_search : MethodName := ⟨RX0, "search", "(LAlarmgrove$Diagnoser;IIIII)I"⟩
abbrev cX0_isBetter : ByteArray := prog_2_method_9_code
def yX0_isBetter : MethodName := ⟨RX0, "isBetter", "(II)Z"⟩
abbrev cX0_explainsAll : ByteArray := prog_2_method_10_code
def yX0_explainsAll : MethodName := ⟨RX0, "explainsAll", "(I)Z"⟩
abbrev cX0_plausibleOf : ByteArray := prog_2_method_11_code
def yX0_plausibleOf : MethodName := ⟨RX0, "plausibleOf", "(LAlarmgrove$Graph;I)I"⟩
def RX1 : String := "Alarmgrove$Graph"
def TX1 : u_T := fun k => match k with
  | 0 => ("Alarmgrove$Graph", "needed", "[I", true)
  | 1 => ("Alarmgrove$Graph", "users", "[I", true)
  | 2 => ("Alarmgrove$Graph", "below", "[I", true)
  | _ => ("Alarmgrove$Graph", "above", "[I", true)
def tyX1 : Nat → FieldType := fun k => match k with
  | 0 => .array .int
  | 1 => .array .int
  | 2 => .array .int
  | _ => .array .int
abbrev wsX10 : List Cond := u_ws RX1 TX1 4
theorem nmX1 : ∀ a, a < 4 → ∀ b, b < 4 → a ≠ b → (TX1 a).2.1 ≠ (TX1 b).2.1 := by decide +kernel
theorem tyX1_ok : ∀ k, k < 4 → parseFieldDescriptor (TX1 k).2.2.1 = some (tyX1 k) := by decide +kernel
abbrev cX1_init : ByteArray := prog_3_method_1_code
def yX1_init : MethodName := ⟨RX1, "<init>", "()V"⟩
abbrev cX1_needed : ByteArray := prog_3_method_2_code
def yX1_needed : MethodName := ⟨RX1, "needed", "(I)I"⟩
abbrev cX1_users : ByteArray := prog_3_method_3_code
def yX1_users : MethodName := ⟨RX1, "users", "(I)I"⟩
abbrev cX1_below : ByteArray := prog_3_method_4_code
def yX1_below : MethodName := ⟨RX1, "below", "(I)I"⟩
abbrev cX1_above : ByteArray := prog_3_method_5_code
def yX1_above : MethodName := ⟨RX1, "above", "(I)I"⟩
abbrev cX1_explainersOf : ByteArray := prog_3_method_6_code
def yX1_explainersOf : MethodName := ⟨RX1, "explainersOf", "(I)I"⟩
abbrev cX1_explainedBy : ByteArray := prog_3_method_7_code
def yX1_explainedBy : MethodName := ⟨RX1, "explainedBy", "(I)I"⟩
abbrev cX1_link : ByteArray := prog_3_method_8_code
def yX1_link : MethodName := ⟨RX1, "link", "(II)Z"⟩
abbrev cX1_unlink : ByteArray := prog_3_method_9_code
def yX1_unlink : MethodName := ⟨RX1, "unlink", "(II)Z"⟩
abbrev cX1_longestWayDown : ByteArray := prog_3_method_10_code
def yX1_longestWayDown : MethodName := ⟨RX1, "longestWayDown", "(I)I"⟩
abbrev cX1_followAll : ByteArray := prog_3_method_11_code
def yX1_followAll : MethodName := ⟨RX1, "followAll", "()V"⟩
abbrev cX1_follow : ByteArray := prog_3_method_12_code
def yX1_follow : MethodName := ⟨RX1, "follow", "([II)I"⟩
abbrev cX1_step : ByteArray := prog_3_method_13_code
def yX1_step : MethodName := ⟨RX1, "step", "([II)I"⟩
def RX2 : String := "Alarmgrove$Log"
def TX2 : u_T := fun k => match k with
  | 0 => ("Alarmgrove$Log", "kinds", "[I", true)
  | 1 => ("Alarmgrove$Log", "nodes", "[I", true)
  | 2 => ("Alarmgrove$Log", "times", "[I", true)
  | 3 => ("Alarmgrove$Log", "lengths", "[I", true)
  | 4 => ("Alarmgrove$Log", "raisedAt", "[I", true)
  | _ => ("Alarmgrove$Log", "count", "I", false)
def tyX2 : Nat → FieldType := fun k => match k with
  | 0 => .array .int
  | 1 => .array .int
  | 2 => .array .int
  | 3 => .array .int
  | 4 => .array .int
  | _ => .int
abbrev wsX20 : List Cond := u_ws RX2 TX2 6
theorem nmX2 : ∀ a, a < 6 → ∀ b, b < 6 → a ≠ b → (TX2 a).2.1 ≠ (TX2 b).2.1 := by decide +kernel
theorem tyX2_ok : ∀ k, k < 6 → parseFieldDescriptor (TX2 k).2.2.1 = some (tyX2 k) := by decide +kernel
abbrev cX2_init : ByteArray := prog_4_method_1_code
def yX2_init : MethodName := ⟨RX2, "<init>", "()V"⟩
abbrev cX2_isFull : ByteArray := prog_4_method_2_code
def yX2_isFull : MethodName := ⟨RX2, "isFull", "()Z"⟩
abbrev cX2_count : ByteArray := prog_4_method_3_code
def yX2_count : MethodName := ⟨RX2, "count", "()I"⟩
abbrev cX2_addRaise : ByteArray := prog_4_method_8_code
def yX2_addRaise : MethodName := ⟨RX2, "addRaise", "(II)V"⟩
abbrev cX2_addClear : ByteArray := prog_4_method_9_code
def yX2_addClear : MethodName := ⟨RX2, "addClear", "(II)V"⟩
abbrev cX2_add : ByteArray := prog_4_method_11_code
def yX2_add : MethodName := ⟨RX2, "add", "(IIII)V"⟩
def RX3 : String := "Alarmgrove$Tickets"
def TX3 : u_T := fun k => match k with
  | 0 => ("Alarmgrove$Tickets", "numbers", "[I", true)
  | 1 => ("Alarmgrove$Tickets", "targets", "[I", true)
  | _ => ("Alarmgrove$Tickets", "newest", "I", false)
def tyX3 : Nat → FieldType := fun k => match k with
  | 0 => .array .int
  | 1 => .array .int
  | _ => .int
abbrev wsX30 : List Cond := u_ws RX3 TX3 3
theorem nmX3 : ∀ a, a < 3 → ∀ b, b < 3 → a ≠ b → (TX3 a).2.1 ≠ (TX3 b).2.1 := by decide +kernel
theorem tyX3_ok : ∀ k, k < 3 → parseFieldDescriptor (TX3 k).2.2.1 = some (tyX3 k) := by decide +kernel
abbrev cX3_init : ByteArray := prog_5_method_1_code
def yX3_init : MethodName := ⟨RX3, "<init>", "()V"⟩
abbrev cX3_numberOf : ByteArray := prog_5_method_2_code
def yX3_numberOf : MethodName := ⟨RX3, "numberOf", "(I)I"⟩
abbrev cX3_sizeOf : ByteArray := prog_5_method_4_code
def yX3_sizeOf : MethodName := ⟨RX3, "sizeOf", "(I)I"⟩
abbrev cX3_join : ByteArray := prog_5_method_7_code
def yX3_join : MethodName := ⟨RX3, "join", "(II)I"⟩
abbrev cX3_leave : ByteArray := prog_5_method_8_code
def yX3_leave : MethodName := ⟨RX3, "leave", "(I)I"⟩
abbrev cX3_isUsed : ByteArray := prog_5_method_9_code
def yX3_isUsed : MethodName := ⟨RX3, "isUsed", "(I)Z"⟩
abbrev cX3_unite : ByteArray := prog_5_method_10_code
def yX3_unite : MethodName := ⟨RX3, "unite", "(I)I"⟩
abbrev cX3_merge : ByteArray := prog_5_method_11_code
def yX3_merge : MethodName := ⟨RX3, "merge", "(II)V"⟩
def RX4 : String := "Alarmgrove"
def TX4 : u_T := fun k => match k with
  | 0 => ("Alarmgrove", "graph", "LAlarmgrove$Graph;", true)
  | 1 => ("Alarmgrove", "log", "LAlarmgrove$Log;", true)
  | 2 => ("Alarmgrove", "tickets", "LAlarmgrove$Tickets;", true)
  | 3 => ("Alarmgrove", "raised", "I", false)
  | _ => ("Alarmgrove", "time", "I", false)
def tyX4 : Nat → FieldType := fun k => match k with
  | 0 => .object "Alarmgrove$Graph"
  | 1 => .object "Alarmgrove$Log"
  | 2 => .object "Alarmgrove$Tickets"
  | 3 => .int
  | _ => .int
abbrev wsX40 : List Cond := u_ws RX4 TX4 5
theorem nmX4 : ∀ a, a < 5 → ∀ b, b < 5 → a ≠ b → (TX4 a).2.1 ≠ (TX4 b).2.1 := by decide +kernel
theorem tyX4_ok : ∀ k, k < 5 → parseFieldDescriptor (TX4 k).2.2.1 = some (tyX4 k) := by decide +kernel
abbrev cX4_init : ByteArray := prog_1_method_1_code
def yX4_init : MethodName := ⟨RX4, "<init>", "()V"⟩
abbrev cX4_need : ByteArray := prog_1_method_2_code
def yX4_need : MethodName := ⟨RX4, "need", "(II)Z"⟩
abbrev cX4_release : ByteArray := prog_1_method_3_code
def yX4_release : MethodName := ⟨RX4, "release", "(II)Z"⟩
abbrev cX4_needs : ByteArray := prog_1_method_4_code
def yX4_needs : MethodName := ⟨RX4, "needs", "(II)Z"⟩
abbrev cX4_dependsOn : ByteArray := prog_1_method_5_code
def yX4_dependsOn : MethodName := ⟨RX4, "dependsOn", "(II)Z"⟩
abbrev cX4_height : ByteArray := prog_1_method_6_code
def yX4_height : MethodName := ⟨RX4, "height", "(I)I"⟩
abbrev cX4_tick : ByteArray := prog_1_method_7_code
def yX4_tick : MethodName := ⟨RX4, "tick", "(I)I"⟩
abbrev cX4_now : ByteArray := prog_1_method_8_code
def yX4_now : MethodName := ⟨RX4, "now", "()I"⟩
abbrev cX4_raise : ByteArray := prog_1_method_9_code
def yX4_raise : MethodName := ⟨RX4, "raise", "(I)I"⟩
abbrev cX4_clear : ByteArray := prog_1_method_10_code
def yX4_clear : MethodName := ⟨RX4, "clear", "(I)I"⟩
abbrev cX4_events : ByteArray := prog_1_method_15_code
def yX4_events : MethodName := ⟨RX4, "events", "()I"⟩
abbrev cX4_ticketOf : ByteArray := prog_1_method_21_code
def yX4_ticketOf : MethodName := ⟨RX4, "ticketOf", "(I)I"⟩
abbrev cX4_isPlausible : ByteArray := prog_1_method_25_code
def yX4_isPlausible : MethodName := ⟨RX4, "isPlausible", "(I)Z"⟩
abbrev cX4_causes : ByteArray := prog_1_method_26_code
def yX4_causes : MethodName := ⟨RX4, "causes", "()I"⟩
abbrev cX4_cause : ByteArray := prog_1_method_27_code
def yX4_cause : MethodName := ⟨RX4, "cause", "(I)I"⟩
abbrev cX4_causeByTrying : ByteArray := prog_1_method_28_code
def yX4_causeByTrying : MethodName := ⟨RX4, "causeByTrying", "(I)I"⟩
abbrev cX4_greedyCauses : ByteArray := prog_1_method_29_code
def yX4_greedyCauses : MethodName := ⟨RX4, "greedyCauses", "()I"⟩
abbrev cX4_greedyCause : ByteArray := prog_1_method_30_code
def yX4_greedyCause : MethodName := ⟨RX4, "greedyCause", "(I)I"⟩
abbrev cX4_causeOf : ByteArray := prog_1_method_31_code
def yX4_causeOf : MethodName := ⟨RX4, "causeOf", "(I)I"⟩
abbrev cX4_diagnoser : ByteArray := prog_1_method_32_code
def yX4_diagnoser : MethodName := ⟨RX4, "diagnoser", "()LAlarmgrove$Diagnoser;"⟩
abbrev cX4_checkNode : ByteArray := prog_1_method_33_code
def yX4_checkNode : MethodName := ⟨RX4, "checkNode", "(I)V"⟩
abbrev cX4_checkTicks : ByteArray := prog_1_method_34_code
def yX4_checkTicks : MethodName := ⟨RX4, "checkTicks", "(II)V"⟩
abbrev cX4_checkChange : ByteArray := prog_1_method_35_code
def yX4_checkChange : MethodName := ⟨RX4, "checkChange", "(Z)V"⟩
abbrev cX4_nodeThere : ByteArray := prog_1_method_37_code
def yX4_nodeThere : MethodName := ⟨RX4, "nodeThere", "(II)I"⟩
abbrev cX4_only : ByteArray := prog_1_method_38_code
def yX4_only : MethodName := ⟨RX4, "only", "(I)I"⟩
abbrev cX4_has : ByteArray := prog_1_method_39_code
def yX4_has : MethodName := ⟨RX4, "has", "(II)Z"⟩
abbrev cX4_nodeAtPlace : ByteArray := prog_1_method_40_code
def yX4_nodeAtPlace : MethodName := ⟨RX4, "nodeAtPlace", "(II)I"⟩
def RX5 : String := "AlarmgroveModel"
def TX5 : u_T := fun k => match k with
  | _ => ("", "", "", false)
def tyX5 : Nat → FieldType := fun k => match k with
  | _ => .int
abbrev wsX50 : List Cond := u_ws RX5 TX5 0
theorem nmX5 : ∀ a, a < 0 → ∀ b, b < 0 → a ≠ b → (TX5 a).2.1 ≠ (TX5 b).2.1 := by decide +kernel
theorem tyX5_ok : ∀ k, k < 0 → parseFieldDescriptor (TX5 k).2.2.1 = some (tyX5 k) := by decide +kernel
def RJ6 : String := "java/lang/Integer"
def TJ6 : u_T := fun k => match k with
  | _ => ("", "", "", false)
def tyJ6 : Nat → FieldType := fun k => match k with
  | _ => .int
abbrev wsJ60 : List Cond := u_ws RJ6 TJ6 0
theorem nmJ6 : ∀ a, a < 0 → ∀ b, b < 0 → a ≠ b → (TJ6 a).2.1 ≠ (TJ6 b).2.1 := by decide +kernel
theorem tyJ6_ok : ∀ k, k < 0 → parseFieldDescriptor (TJ6 k).2.2.1 = some (tyJ6 k) := by decide +kernel
abbrev cJ6_bitCount_0f7a4 : ByteArray := prog_12_method_49_code
def yJ6_bitCount_0f7a4 : MethodName := ⟨RJ6, "bitCount", "(I)I"⟩
def RJ9 : String := "java/lang/Math"
def TJ9 : u_T := fun k => match k with
  | _ => ("", "", "", false)
def tyJ9 : Nat → FieldType := fun k => match k with
  | _ => .int
abbrev wsJ90 : List Cond := u_ws RJ9 TJ9 0
theorem nmJ9 : ∀ a, a < 0 → ∀ b, b < 0 → a ≠ b → (TJ9 a).2.1 ≠ (TJ9 b).2.1 := by decide +kernel
theorem tyJ9_ok : ∀ k, k < 0 → parseFieldDescriptor (TJ9 k).2.2.1 = some (tyJ9 k) := by decide +kernel
abbrev cJ9_min_7cf53 : ByteArray := prog_13_method_69_code
def yJ9_min_7cf53 : MethodName := ⟨RJ9, "min", "(II)I"⟩
def RJ0 : String := "java/lang/String"
def TJ0 : u_T := fun k => match k with
  | _ => ("", "", "", false)
def tyJ0 : Nat → FieldType := fun k => match k with
  | _ => .int
abbrev wsJ00 : List Cond := u_ws RJ0 TJ0 0
theorem nmJ0 : ∀ a, a < 0 → ∀ b, b < 0 → a ≠ b → (TJ0 a).2.1 ≠ (TJ0 b).2.1 := by decide +kernel
theorem tyJ0_ok : ∀ k, k < 0 → parseFieldDescriptor (TJ0 k).2.2.1 = some (tyJ0 k) := by decide +kernel
def RL : String := "AlarmgroveLaw"
abbrev cL_cell : ByteArray := method_2_code
def yL_cell : MethodName := ⟨RL, "cell", "([II)I"⟩
abbrev cL_need : ByteArray := method_3_code
def yL_need : MethodName := ⟨RL, "need", "(LAlarmgrove;II)I"⟩
abbrev cL_release : ByteArray := method_4_code
def yL_release : MethodName := ⟨RL, "release", "(LAlarmgrove;II)I"⟩
abbrev cL_needs : ByteArray := method_5_code
def yL_needs : MethodName := ⟨RL, "needs", "(LAlarmgrove;II)I"⟩
abbrev cL_depends : ByteArray := method_6_code
def yL_depends : MethodName := ⟨RL, "depends", "(LAlarmgrove;II)I"⟩
abbrev cL_height : ByteArray := method_7_code
def yL_height : MethodName := ⟨RL, "height", "(LAlarmgrove;I)I"⟩
abbrev cL_tick : ByteArray := method_8_code
def yL_tick : MethodName := ⟨RL, "tick", "(LAlarmgrove;I)I"⟩
abbrev cL_raise : ByteArray := method_9_code
def yL_raise : MethodName := ⟨RL, "raise", "(LAlarmgrove;I)I"⟩
abbrev cL_clear : ByteArray := method_10_code
def yL_clear : MethodName := ⟨RL, "clear", "(LAlarmgrove;I)I"⟩
abbrev cL_ticket : ByteArray := method_11_code
def yL_ticket : MethodName := ⟨RL, "ticket", "(LAlarmgrove;I)I"⟩
abbrev cL_plausible : ByteArray := method_12_code
def yL_plausible : MethodName := ⟨RL, "plausible", "(LAlarmgrove;I)I"⟩
abbrev cL_cause : ByteArray := method_13_code
def yL_cause : MethodName := ⟨RL, "cause", "(LAlarmgrove;I)I"⟩
abbrev cL_tried : ByteArray := method_14_code
def yL_tried : MethodName := ⟨RL, "tried", "(LAlarmgrove;I)I"⟩
abbrev cL_greedy : ByteArray := method_15_code
def yL_greedy : MethodName := ⟨RL, "greedy", "(LAlarmgrove;I)I"⟩
abbrev cL_causeOf : ByteArray := method_16_code
def yL_causeOf : MethodName := ⟨RL, "causeOf", "(LAlarmgrove;I)I"⟩
abbrev cL_hangs : ByteArray := method_17_code
def yL_hangs : MethodName := ⟨RL, "hangs", "(LAlarmgrove;)Z"⟩
abbrev cL_size : ByteArray := method_18_code
def yL_size : MethodName := ⟨RL, "size", "(I)I"⟩
abbrev cL_all : ByteArray := method_19_code
def yL_all : MethodName := ⟨RL, "all", "([II)I"⟩
abbrev cL_isBest : ByteArray := method_20_code
def yL_isBest : MethodName := ⟨RL, "isBest", "([IIII)Z"⟩
abbrev cL_causes : ByteArray := method_21_code
def yL_causes : MethodName := ⟨RL, "causes", "(LAlarmgrove;)Z"⟩
abbrev cL_law : ByteArray := code
def yL_law : MethodName := ⟨RL, "law", "([I)Z"⟩
def wsX1_users : List Cond := .code yX1_users cX1_users 2 (some .int) :: ([.fieldLink RX1 15 "Alarmgrove$Graph" "users" "[I"] ++ wsX10)
def wsX4_only : List Cond := .code yX4_only cX4_only 1 (some .int) :: ([])
def wsX0_plausibleOf : List Cond := .code yX0_plausibleOf cX0_plausibleOf 5 (some .int) :: ([.methodLink RX0 65 yX1_users, .instanceMethod yX1_users, .selects RX1 yX1_users yX1_users, .initialized RX1, .code yX1_users cX1_users 2 (some .int), .fieldLink RX1 15 "Alarmgrove$Graph" "users" "[I", .static yX4_only, .initialized RX4, .code yX4_only cX4_only 1 (some .int)] ++ wsX10)
def wsX0_init : List Cond := .code yX0_init cX0_init 3 none :: ([.methodLink RX0 3 objectInit, .instanceMethod objectInit, .code objectInit ⟨#[0xb1]⟩ 1 none, .fieldLink RX0 9 "Alarmgrove$Diagnoser" "graph" "LAlarmgrove$Graph;", .fieldLink RX0 15 "Alarmgrove$Diagnoser" "raised" "I", .fieldLink RX0 23 "Alarmgrove$Diagnoser" "plausible" "I", .methodLink RX0 19 yX0_plausibleOf, .static yX0_plausibleOf, .initialized RX0, .code yX0_plausibleOf cX0_plausibleOf 5 (some .int), .methodLink RX0 65 yX1_users, .instanceMethod yX1_users, .selects RX1 yX1_users yX1_users, .initialized RX1, .code yX1_users cX1_users 2 (some .int), .fieldLink RX1 15 "Alarmgrove$Graph" "users" "[I", .static yX4_only, .initialized RX4, .code yX4_only cX4_only 1 (some .int)] ++ wsX00 ++ wsX10)
def wsX0_plausibleNodes : List Cond := .code yX0_plausibleNodes cX0_plausibleNodes 1 (some .int) :: ([.fieldLink RX0 23 "Alarmgrove$Diagnoser" "plausible" "I"] ++ wsX00)
def wsX4_has : List Cond := .code yX4_has cX4_has 2 (some .boolean) :: ([.methodLink RX4 82 yX4_only, .static yX4_only, .initialized RX4, .code yX4_only cX4_only 1 (some .int)])
def wsX4_nodeAtPlace : List Cond := .code yX4_nodeAtPlace cX4_nodeAtPlace 4 (some .int) :: ([.methodLink RX4 45 yX4_has, .static yX4_has, .initialized RX4, .code yX4_has cX4_has 2 (some .boolean), .methodLink RX4 82 yX4_only, .static yX4_only, .code yX4_only cX4_only 1 (some .int)])
def wsJ6_bitCount_0f7a4 : List Cond := .code yJ6_bitCount_0f7a4 cJ6_bitCount_0f7a4 1 (some .int) :: ([.constant RJ6 265 (1431655765), .constant RJ6 266 (858993459), .constant RJ6 267 (252645135)])
def wsX0_isBetter : List Cond := .code yX0_isBetter cX0_isBetter 8 (some .boolean) :: ([.fieldLink RX0 15 "Alarmgrove$Diagnoser" "raised" "I", .methodLink RX0 30 yJ6_bitCount_0f7a4, .static yJ6_bitCount_0f7a4, .initialized RJ6, .code yJ6_bitCount_0f7a4 cJ6_bitCount_0f7a4 1 (some .int), .constant RJ6 265 (1431655765), .constant RJ6 266 (858993459), .constant RJ6 267 (252645135), .static yX4_nodeAtPlace, .initialized RX4, .code yX4_nodeAtPlace cX4_nodeAtPlace 4 (some .int), .methodLink RX4 45 yX4_has, .static yX4_has, .code yX4_has cX4_has 2 (some .boolean), .methodLink RX4 82 yX4_only, .static yX4_only, .code yX4_only cX4_only 1 (some .int)] ++ wsX00)
def wsX1_explainersOf : List Cond := .code yX1_explainersOf cX1_explainersOf 2 (some .int) :: ([.fieldLink RX1 18 "Alarmgrove$Graph" "below" "[I", .static yX4_only, .initialized RX4, .code yX4_only cX4_only 1 (some .int)] ++ wsX10)
def wsX1_explainedBy : List Cond := .code yX1_explainedBy cX1_explainedBy 2 (some .int) :: ([.fieldLink RX1 21 "Alarmgrove$Graph" "above" "[I", .static yX4_only, .initialized RX4, .code yX4_only cX4_only 1 (some .int)] ++ wsX10)
def wsX0_search_r1 : List Cond := [Cond.fieldLink RX0 9 "Alarmgrove$Diagnoser" "graph" "LAlarmgrove$Graph;", Cond.static yX4_nodeAtPlace, Cond.initialized RX4, Cond.code yX4_nodeAtPlace cX4_nodeAtPlace 4 (some .int), Cond.methodLink RX4 45 yX4_has, Cond.static yX4_has, Cond.code yX4_has cX4_has 2 (some .boolean), Cond.methodLink RX4 82 yX4_only, Cond.static yX4_only, Cond.code yX4_only cX4_only 1 (some .int), Cond.methodLink RX0 36 yX0_isBetter, Cond.instanceMethod yX0_isBetter, Cond.selects RX0 yX0_isBetter yX0_isBetter, Cond.initialized RX0, Cond.code yX0_isBetter cX0_isBetter 8 (some .boolean), Cond.fieldLink RX0 15 "Alarmgrove$Diagnoser" "raised" "I", Cond.methodLink RX0 30 yJ6_bitCount_0f7a4, Cond.static yJ6_bitCount_0f7a4, Cond.initialized RJ6, Cond.code yJ6_bitCount_0f7a4 cJ6_bitCount_0f7a4 1 (some .int), Cond.constant RJ6 265 (1431655765), Cond.constant RJ6 266 (858993459), Cond.constant RJ6 267 (252645135), Cond.methodLink RX0 59 yX1_explainersOf]
def wsX0_search_r2 : List Cond := [Cond.instanceMethod yX1_explainersOf, Cond.selects RX1 yX1_explainersOf yX1_explainersOf, Cond.initialized RX1, Cond.code yX1_explainersOf cX1_explainersOf 2 (some .int), Cond.fieldLink RX1 18 "Alarmgrove$Graph" "below" "[I", Cond.methodLink RX0 47 yX1_explainedBy, Cond.instanceMethod yX1_explainedBy, Cond.selects RX1 yX1_explainedBy yX1_explainedBy, Cond.code yX1_explainedBy cX1_explainedBy 2 (some .int), Cond.fieldLink RX1 21 "Alarmgrove$Graph" "above" "[I", Cond.methodLink RX0 26 yX0_search, Cond.static yX0_search]
def wsX0_search : List Cond := .code yX0_search cX0_search 13 (some .int) :: ((wsX0_search_r1 ++ wsX0_search_r2) ++ wsX00 ++ wsX10)
def wsX0_bestBySearch_r1 : List Cond := [Cond.fieldLink RX0 15 "Alarmgrove$Diagnoser" "raised" "I", Cond.fieldLink RX0 23 "Alarmgrove$Diagnoser" "plausible" "I", Cond.methodLink RX0 26 yX0_search, Cond.static yX0_search, Cond.initialized RX0, Cond.code yX0_search cX0_search 13 (some .int), Cond.fieldLink RX0 9 "Alarmgrove$Diagnoser" "graph" "LAlarmgrove$Graph;", Cond.static yX4_nodeAtPlace, Cond.initialized RX4, Cond.code yX4_nodeAtPlace cX4_nodeAtPlace 4 (some .int), Cond.methodLink RX4 45 yX4_has, Cond.static yX4_has, Cond.code yX4_has cX4_has 2 (some .boolean), Cond.methodLink RX4 82 yX4_only, Cond.static yX4_only, Cond.code yX4_only cX4_only 1 (some .int), Cond.methodLink RX0 36 yX0_isBetter, Cond.instanceMethod yX0_isBetter, Cond.selects RX0 yX0_isBetter yX0_isBetter, Cond.code yX0_isBetter cX0_isBetter 8 (some .boolean), Cond.methodLink RX0 30 yJ6_bitCount_0f7a4, Cond.static yJ6_bitCount_0f7a4, Cond.initialized RJ6, Cond.code yJ6_bitCount_0f7a4 cJ6_bitCount_0f7a4 1 (some .int)]
def wsX0_bestBySearch_r2 : List Cond := [Cond.constant RJ6 265 (1431655765), Cond.constant RJ6 266 (858993459), Cond.constant RJ6 267 (252645135), Cond.methodLink RX0 59 yX1_explainersOf, Cond.instanceMethod yX1_explainersOf, Cond.selects RX1 yX1_explainersOf yX1_explainersOf, Cond.initialized RX1, Cond.code yX1_explainersOf cX1_explainersOf 2 (some .int), Cond.fieldLink RX1 18 "Alarmgrove$Graph" "below" "[I", Cond.methodLink RX0 47 yX1_explainedBy, Cond.instanceMethod yX1_explainedBy, Cond.selects RX1 yX1_explainedBy yX1_explainedBy, Cond.code yX1_explainedBy cX1_explainedBy 2 (some .int), Cond.fieldLink RX1 21 "Alarmgrove$Graph" "above" "[I"]
def wsX0_bestBySearch : List Cond := .code yX0_bestBySearch cX0_bestBySearch 1 (some .int) :: ((wsX0_bestBySearch_r1 ++ wsX0_bestBySearch_r2) ++ wsX00 ++ wsX10)
def wsX0_explainsAll : List Cond := .code yX0_explainsAll cX0_explainsAll 3 (some .boolean) :: ([.fieldLink RX0 15 "Alarmgrove$Diagnoser" "raised" "I", .fieldLink RX0 9 "Alarmgrove$Diagnoser" "graph" "LAlarmgrove$Graph;", .static yX4_has, .initialized RX4, .code yX4_has cX4_has 2 (some .boolean), .methodLink RX4 82 yX4_only, .static yX4_only, .code yX4_only cX4_only 1 (some .int), .methodLink RX0 59 yX1_explainersOf, .instanceMethod yX1_explainersOf, .selects RX1 yX1_explainersOf yX1_explainersOf, .initialized RX1, .code yX1_explainersOf cX1_explainersOf 2 (some .int), .fieldLink RX1 18 "Alarmgrove$Graph" "below" "[I"] ++ wsX00 ++ wsX10)
def wsX0_bestByTrying_r1 : List Cond := [Cond.fieldLink RX0 15 "Alarmgrove$Diagnoser" "raised" "I", Cond.fieldLink RX0 23 "Alarmgrove$Diagnoser" "plausible" "I", Cond.methodLink RX0 30 yJ6_bitCount_0f7a4, Cond.static yJ6_bitCount_0f7a4, Cond.initialized RJ6, Cond.code yJ6_bitCount_0f7a4 cJ6_bitCount_0f7a4 1 (some .int), Cond.constant RJ6 265 (1431655765), Cond.constant RJ6 266 (858993459), Cond.constant RJ6 267 (252645135), Cond.methodLink RX0 36 yX0_isBetter, Cond.instanceMethod yX0_isBetter, Cond.selects RX0 yX0_isBetter yX0_isBetter, Cond.initialized RX0, Cond.code yX0_isBetter cX0_isBetter 8 (some .boolean), Cond.static yX4_nodeAtPlace, Cond.initialized RX4, Cond.code yX4_nodeAtPlace cX4_nodeAtPlace 4 (some .int), Cond.methodLink RX4 45 yX4_has, Cond.static yX4_has, Cond.code yX4_has cX4_has 2 (some .boolean), Cond.methodLink RX4 82 yX4_only, Cond.static yX4_only, Cond.code yX4_only cX4_only 1 (some .int), Cond.methodLink RX0 40 yX0_explainsAll]
def wsX0_bestByTrying_r2 : List Cond := [Cond.instanceMethod yX0_explainsAll, Cond.selects RX0 yX0_explainsAll yX0_explainsAll, Cond.code yX0_explainsAll cX0_explainsAll 3 (some .boolean), Cond.fieldLink RX0 9 "Alarmgrove$Diagnoser" "graph" "LAlarmgrove$Graph;", Cond.methodLink RX0 59 yX1_explainersOf, Cond.instanceMethod yX1_explainersOf, Cond.selects RX1 yX1_explainersOf yX1_explainersOf, Cond.initialized RX1, Cond.code yX1_explainersOf cX1_explainersOf 2 (some .int), Cond.fieldLink RX1 18 "Alarmgrove$Graph" "below" "[I"]
def wsX0_bestByTrying : List Cond := .code yX0_bestByTrying cX0_bestByTrying 5 (some .int) :: ((wsX0_bestByTrying_r1 ++ wsX0_bestByTrying_r2) ++ wsX00 ++ wsX10)
def wsX0_greedyNext : List Cond := .code yX0_greedyNext cX0_greedyNext 7 (some .int) :: ([.fieldLink RX0 23 "Alarmgrove$Diagnoser" "plausible" "I", .fieldLink RX0 9 "Alarmgrove$Diagnoser" "graph" "LAlarmgrove$Graph;", .fieldLink RX0 15 "Alarmgrove$Diagnoser" "raised" "I", .static yX4_has, .initialized RX4, .code yX4_has cX4_has 2 (some .boolean), .methodLink RX4 82 yX4_only, .static yX4_only, .code yX4_only cX4_only 1 (some .int), .methodLink RX0 47 yX1_explainedBy, .instanceMethod yX1_explainedBy, .selects RX1 yX1_explainedBy yX1_explainedBy, .initialized RX1, .code yX1_explainedBy cX1_explainedBy 2 (some .int), .fieldLink RX1 21 "Alarmgrove$Graph" "above" "[I", .methodLink RX0 30 yJ6_bitCount_0f7a4, .static yJ6_bitCount_0f7a4, .initialized RJ6, .code yJ6_bitCount_0f7a4 cJ6_bitCount_0f7a4 1 (some .int), .constant RJ6 265 (1431655765), .constant RJ6 266 (858993459), .constant RJ6 267 (252645135)] ++ wsX00 ++ wsX10)
def wsX0_greedyCount_r1 : List Cond := [Cond.fieldLink RX0 15 "Alarmgrove$Diagnoser" "raised" "I", Cond.fieldLink RX0 9 "Alarmgrove$Diagnoser" "graph" "LAlarmgrove$Graph;", Cond.methodLink RX0 44 yX0_greedyNext, Cond.instanceMethod yX0_greedyNext, Cond.selects RX0 yX0_greedyNext yX0_greedyNext, Cond.initialized RX0, Cond.code yX0_greedyNext cX0_greedyNext 7 (some .int), Cond.fieldLink RX0 23 "Alarmgrove$Diagnoser" "plausible" "I", Cond.static yX4_has, Cond.initialized RX4, Cond.code yX4_has cX4_has 2 (some .boolean), Cond.methodLink RX4 82 yX4_only, Cond.static yX4_only, Cond.code yX4_only cX4_only 1 (some .int), Cond.methodLink RX0 47 yX1_explainedBy, Cond.instanceMethod yX1_explainedBy, Cond.selects RX1 yX1_explainedBy yX1_explainedBy, Cond.initialized RX1, Cond.code yX1_explainedBy cX1_explainedBy 2 (some .int), Cond.fieldLink RX1 21 "Alarmgrove$Graph" "above" "[I", Cond.methodLink RX0 30 yJ6_bitCount_0f7a4, Cond.static yJ6_bitCount_0f7a4, Cond.initialized RJ6, Cond.code yJ6_bitCount_0f7a4 cJ6_bitCount_0f7a4 1 (some .int)]
def wsX0_greedyCount_r2 : List Cond := [Cond.constant RJ6 265 (1431655765), Cond.constant RJ6 266 (858993459), Cond.constant RJ6 267 (252645135)]
def wsX0_greedyCount : List Cond := .code yX0_greedyCount cX0_greedyCount 3 (some .int) :: ((wsX0_greedyCount_r1 ++ wsX0_greedyCount_r2) ++ wsX00 ++ wsX10)
def wsX0_greedyAt_r1 : List Cond := [Cond.fieldLink RX0 15 "Alarmgrove$Diagnoser" "raised" "I", Cond.fieldLink RX0 9 "Alarmgrove$Diagnoser" "graph" "LAlarmgrove$Graph;", Cond.methodLink RX0 44 yX0_greedyNext, Cond.instanceMethod yX0_greedyNext, Cond.selects RX0 yX0_greedyNext yX0_greedyNext, Cond.initialized RX0, Cond.code yX0_greedyNext cX0_greedyNext 7 (some .int), Cond.fieldLink RX0 23 "Alarmgrove$Diagnoser" "plausible" "I", Cond.static yX4_has, Cond.initialized RX4, Cond.code yX4_has cX4_has 2 (some .boolean), Cond.methodLink RX4 82 yX4_only, Cond.static yX4_only, Cond.code yX4_only cX4_only 1 (some .int), Cond.methodLink RX0 47 yX1_explainedBy, Cond.instanceMethod yX1_explainedBy, Cond.selects RX1 yX1_explainedBy yX1_explainedBy, Cond.initialized RX1, Cond.code yX1_explainedBy cX1_explainedBy 2 (some .int), Cond.fieldLink RX1 21 "Alarmgrove$Graph" "above" "[I", Cond.methodLink RX0 30 yJ6_bitCount_0f7a4, Cond.static yJ6_bitCount_0f7a4, Cond.initialized RJ6, Cond.code yJ6_bitCount_0f7a4 cJ6_bitCount_0f7a4 1 (some .int)]
def wsX0_greedyAt_r2 : List Cond := [Cond.constant RJ6 265 (1431655765), Cond.constant RJ6 266 (858993459), Cond.constant RJ6 267 (252645135)]
def wsX0_greedyAt : List Cond := .code yX0_greedyAt cX0_greedyAt 5 (some .int) :: ((wsX0_greedyAt_r1 ++ wsX0_greedyAt_r2) ++ wsX00 ++ wsX10)
def wsX1_init : List Cond := .code yX1_init cX1_init 1 none :: ([.methodLink RX1 3 objectInit, .instanceMethod objectInit, .code objectInit ⟨#[0xb1]⟩ 1 none, .arrayClass .int, .fieldLink RX1 9 "Alarmgrove$Graph" "needed" "[I", .fieldLink RX1 15 "Alarmgrove$Graph" "users" "[I", .fieldLink RX1 18 "Alarmgrove$Graph" "below" "[I", .fieldLink RX1 21 "Alarmgrove$Graph" "above" "[I"] ++ wsX10)
def wsX1_needed : List Cond := .code yX1_needed cX1_needed 2 (some .int) :: ([.fieldLink RX1 9 "Alarmgrove$Graph" "needed" "[I"] ++ wsX10)
def wsX1_below : List Cond := .code yX1_below cX1_below 2 (some .int) :: ([.fieldLink RX1 18 "Alarmgrove$Graph" "below" "[I"] ++ wsX10)
def wsX1_above : List Cond := .code yX1_above cX1_above 2 (some .int) :: ([.fieldLink RX1 21 "Alarmgrove$Graph" "above" "[I"] ++ wsX10)
def wsX1_step : List Cond := .code yX1_step cX1_step 4 (some .int) :: ([.static yX4_has, .initialized RX4, .code yX4_has cX4_has 2 (some .boolean), .methodLink RX4 82 yX4_only, .static yX4_only, .code yX4_only cX4_only 1 (some .int)])
def wsX1_follow : List Cond := .code yX1_follow cX1_follow 5 (some .int) :: ([.static yX4_only, .initialized RX4, .code yX4_only cX4_only 1 (some .int), .methodLink RX1 35 yX1_step, .static yX1_step, .initialized RX1, .code yX1_step cX1_step 4 (some .int), .static yX4_has, .code yX4_has cX4_has 2 (some .boolean), .methodLink RX4 82 yX4_only])
def wsX1_followAll : List Cond := .code yX1_followAll cX1_followAll 2 none :: ([.fieldLink RX1 18 "Alarmgrove$Graph" "below" "[I", .fieldLink RX1 9 "Alarmgrove$Graph" "needed" "[I", .fieldLink RX1 21 "Alarmgrove$Graph" "above" "[I", .fieldLink RX1 15 "Alarmgrove$Graph" "users" "[I", .methodLink RX1 39 yX1_follow, .static yX1_follow, .initialized RX1, .code yX1_follow cX1_follow 5 (some .int), .static yX4_only, .initialized RX4, .code yX4_only cX4_only 1 (some .int), .methodLink RX1 35 yX1_step, .static yX1_step, .code yX1_step cX1_step 4 (some .int), .static yX4_has, .code yX4_has cX4_has 2 (some .boolean), .methodLink RX4 82 yX4_only] ++ wsX10)
def wsX1_link : List Cond := .code yX1_link cX1_link 3 (some .boolean) :: ([.fieldLink RX1 9 "Alarmgrove$Graph" "needed" "[I", .fieldLink RX1 15 "Alarmgrove$Graph" "users" "[I", .static yX4_has, .initialized RX4, .code yX4_has cX4_has 2 (some .boolean), .methodLink RX4 82 yX4_only, .static yX4_only, .code yX4_only cX4_only 1 (some .int), .methodLink RX1 32 yX1_followAll, .instanceMethod yX1_followAll, .selects RX1 yX1_followAll yX1_followAll, .initialized RX1, .code yX1_followAll cX1_followAll 2 none, .fieldLink RX1 18 "Alarmgrove$Graph" "below" "[I", .fieldLink RX1 21 "Alarmgrove$Graph" "above" "[I", .methodLink RX1 39 yX1_follow, .static yX1_follow, .code yX1_follow cX1_follow 5 (some .int), .methodLink RX1 35 yX1_step, .static yX1_step, .code yX1_step cX1_step 4 (some .int)] ++ wsX10)
def wsX1_unlink : List Cond := .code yX1_unlink cX1_unlink 3 (some .boolean) :: ([.fieldLink RX1 9 "Alarmgrove$Graph" "needed" "[I", .fieldLink RX1 15 "Alarmgrove$Graph" "users" "[I", .static yX4_has, .initialized RX4, .code yX4_has cX4_has 2 (some .boolean), .methodLink RX4 82 yX4_only, .static yX4_only, .code yX4_only cX4_only 1 (some .int), .methodLink RX1 32 yX1_followAll, .instanceMethod yX1_followAll, .selects RX1 yX1_followAll yX1_followAll, .initialized RX1, .code yX1_followAll cX1_followAll 2 none, .fieldLink RX1 18 "Alarmgrove$Graph" "below" "[I", .fieldLink RX1 21 "Alarmgrove$Graph" "above" "[I", .methodLink RX1 39 yX1_follow, .static yX1_follow, .code yX1_follow cX1_follow 5 (some .int), .methodLink RX1 35 yX1_step, .static yX1_step, .code yX1_step cX1_step 4 (some .int)] ++ wsX10)
def wsX1_longestWayDown : List Cond := .code yX1_longestWayDown cX1_longestWayDown 4 (some .int) :: ([.fieldLink RX1 9 "Alarmgrove$Graph" "needed" "[I", .static yX4_only, .initialized RX4, .code yX4_only cX4_only 1 (some .int), .methodLink RX1 35 yX1_step, .static yX1_step, .initialized RX1, .code yX1_step cX1_step 4 (some .int), .static yX4_has, .code yX4_has cX4_has 2 (some .boolean), .methodLink RX4 82 yX4_only] ++ wsX10)
def wsX2_init : List Cond := .code yX2_init cX2_init 1 none :: ([.methodLink RX2 3 objectInit, .instanceMethod objectInit, .code objectInit ⟨#[0xb1]⟩ 1 none, .arrayClass .int, .fieldLink RX2 9 "Alarmgrove$Log" "kinds" "[I", .fieldLink RX2 15 "Alarmgrove$Log" "nodes" "[I", .fieldLink RX2 18 "Alarmgrove$Log" "times" "[I", .fieldLink RX2 21 "Alarmgrove$Log" "lengths" "[I", .fieldLink RX2 24 "Alarmgrove$Log" "raisedAt" "[I", .fieldLink RX2 27 "Alarmgrove$Log" "count" "I"] ++ wsX20)
def wsX2_isFull : List Cond := .code yX2_isFull cX2_isFull 1 (some .boolean) :: ([.fieldLink RX2 27 "Alarmgrove$Log" "count" "I"] ++ wsX20)
def wsX2_count : List Cond := .code yX2_count cX2_count 1 (some .int) :: ([.fieldLink RX2 27 "Alarmgrove$Log" "count" "I"] ++ wsX20)
def wsX2_add : List Cond := .code yX2_add cX2_add 5 none :: ([.fieldLink RX2 9 "Alarmgrove$Log" "kinds" "[I", .fieldLink RX2 27 "Alarmgrove$Log" "count" "I", .fieldLink RX2 15 "Alarmgrove$Log" "nodes" "[I", .fieldLink RX2 18 "Alarmgrove$Log" "times" "[I", .fieldLink RX2 21 "Alarmgrove$Log" "lengths" "[I"] ++ wsX20)
def wsX2_addRaise : List Cond := .code yX2_addRaise cX2_addRaise 3 none :: ([.fieldLink RX2 24 "Alarmgrove$Log" "raisedAt" "[I", .methodLink RX2 31 yX2_add, .instanceMethod yX2_add, .selects RX2 yX2_add yX2_add, .initialized RX2, .code yX2_add cX2_add 5 none, .fieldLink RX2 9 "Alarmgrove$Log" "kinds" "[I", .fieldLink RX2 27 "Alarmgrove$Log" "count" "I", .fieldLink RX2 15 "Alarmgrove$Log" "nodes" "[I", .fieldLink RX2 18 "Alarmgrove$Log" "times" "[I", .fieldLink RX2 21 "Alarmgrove$Log" "lengths" "[I"] ++ wsX20)
def wsX2_addClear : List Cond := .code yX2_addClear cX2_addClear 3 none :: ([.fieldLink RX2 24 "Alarmgrove$Log" "raisedAt" "[I", .methodLink RX2 31 yX2_add, .instanceMethod yX2_add, .selects RX2 yX2_add yX2_add, .initialized RX2, .code yX2_add cX2_add 5 none, .fieldLink RX2 9 "Alarmgrove$Log" "kinds" "[I", .fieldLink RX2 27 "Alarmgrove$Log" "count" "I", .fieldLink RX2 15 "Alarmgrove$Log" "nodes" "[I", .fieldLink RX2 18 "Alarmgrove$Log" "times" "[I", .fieldLink RX2 21 "Alarmgrove$Log" "lengths" "[I"] ++ wsX20)
def wsX3_init : List Cond := .code yX3_init cX3_init 2 none :: ([.methodLink RX3 3 objectInit, .instanceMethod objectInit, .code objectInit ⟨#[0xb1]⟩ 1 none, .arrayClass .int, .fieldLink RX3 9 "Alarmgrove$Tickets" "numbers" "[I", .fieldLink RX3 15 "Alarmgrove$Tickets" "targets" "[I", .fieldLink RX3 18 "Alarmgrove$Tickets" "newest" "I"] ++ wsX30)
def wsX3_numberOf : List Cond := .code yX3_numberOf cX3_numberOf 2 (some .int) :: ([.fieldLink RX3 9 "Alarmgrove$Tickets" "numbers" "[I"] ++ wsX30)
def wsX3_isUsed : List Cond := .code yX3_isUsed cX3_isUsed 2 (some .boolean) :: ([.fieldLink RX3 18 "Alarmgrove$Tickets" "newest" "I", .fieldLink RX3 15 "Alarmgrove$Tickets" "targets" "[I"] ++ wsX30)
def wsX3_sizeOf : List Cond := .code yX3_sizeOf cX3_sizeOf 4 (some .int) :: ([.fieldLink RX3 9 "Alarmgrove$Tickets" "numbers" "[I", .methodLink RX3 22 yX3_isUsed, .instanceMethod yX3_isUsed, .selects RX3 yX3_isUsed yX3_isUsed, .initialized RX3, .code yX3_isUsed cX3_isUsed 2 (some .boolean), .fieldLink RX3 18 "Alarmgrove$Tickets" "newest" "I", .fieldLink RX3 15 "Alarmgrove$Tickets" "targets" "[I"] ++ wsX30)
def wsX3_merge : List Cond := .code yX3_merge cX3_merge 4 none :: ([.fieldLink RX3 9 "Alarmgrove$Tickets" "numbers" "[I", .fieldLink RX3 15 "Alarmgrove$Tickets" "targets" "[I", .methodLink RX3 22 yX3_isUsed, .instanceMethod yX3_isUsed, .selects RX3 yX3_isUsed yX3_isUsed, .initialized RX3, .code yX3_isUsed cX3_isUsed 2 (some .boolean), .fieldLink RX3 18 "Alarmgrove$Tickets" "newest" "I"] ++ wsX30)
def wsX3_unite : List Cond := .code yX3_unite cX3_unite 4 (some .int) :: ([.fieldLink RX3 18 "Alarmgrove$Tickets" "newest" "I", .fieldLink RX3 9 "Alarmgrove$Tickets" "numbers" "[I", .methodLink RX3 40 Lib.Math.min.name, .static Lib.Math.min.name, .initialized "java/lang/Math", .code Lib.Math.min.name Lib.Math.min.code 2 (some .int), .static yX4_has, .initialized RX4, .code yX4_has cX4_has 2 (some .boolean), .methodLink RX4 82 yX4_only, .static yX4_only, .code yX4_only cX4_only 1 (some .int), .methodLink RX3 46 yX3_merge, .instanceMethod yX3_merge, .selects RX3 yX3_merge yX3_merge, .initialized RX3, .code yX3_merge cX3_merge 4 none, .fieldLink RX3 15 "Alarmgrove$Tickets" "targets" "[I", .methodLink RX3 22 yX3_isUsed, .instanceMethod yX3_isUsed, .selects RX3 yX3_isUsed yX3_isUsed, .code yX3_isUsed cX3_isUsed 2 (some .boolean)] ++ wsX30)
def wsX3_join_r1 : List Cond := [Cond.fieldLink RX3 18 "Alarmgrove$Tickets" "newest" "I", Cond.fieldLink RX3 9 "Alarmgrove$Tickets" "numbers" "[I", Cond.methodLink RX3 33 yX3_unite, Cond.instanceMethod yX3_unite, Cond.selects RX3 yX3_unite yX3_unite, Cond.initialized RX3, Cond.code yX3_unite cX3_unite 4 (some .int), Cond.methodLink RX3 40 Lib.Math.min.name, Cond.static Lib.Math.min.name, Cond.initialized "java/lang/Math", Cond.code Lib.Math.min.name Lib.Math.min.code 2 (some .int), Cond.static yX4_has, Cond.initialized RX4, Cond.code yX4_has cX4_has 2 (some .boolean), Cond.methodLink RX4 82 yX4_only, Cond.static yX4_only, Cond.code yX4_only cX4_only 1 (some .int), Cond.methodLink RX3 46 yX3_merge, Cond.instanceMethod yX3_merge, Cond.selects RX3 yX3_merge yX3_merge, Cond.code yX3_merge cX3_merge 4 none, Cond.fieldLink RX3 15 "Alarmgrove$Tickets" "targets" "[I", Cond.methodLink RX3 22 yX3_isUsed, Cond.instanceMethod yX3_isUsed]
def wsX3_join_r2 : List Cond := [Cond.selects RX3 yX3_isUsed yX3_isUsed, Cond.code yX3_isUsed cX3_isUsed 2 (some .boolean)]
def wsX3_join : List Cond := .code yX3_join cX3_join 3 (some .int) :: ((wsX3_join_r1 ++ wsX3_join_r2) ++ wsX30)
def wsX3_leave : List Cond := .code yX3_leave cX3_leave 3 (some .int) :: ([.fieldLink RX3 9 "Alarmgrove$Tickets" "numbers" "[I", .methodLink RX3 26 yX3_sizeOf, .instanceMethod yX3_sizeOf, .selects RX3 yX3_sizeOf yX3_sizeOf, .initialized RX3, .code yX3_sizeOf cX3_sizeOf 4 (some .int), .methodLink RX3 22 yX3_isUsed, .instanceMethod yX3_isUsed, .selects RX3 yX3_isUsed yX3_isUsed, .code yX3_isUsed cX3_isUsed 2 (some .boolean), .fieldLink RX3 18 "Alarmgrove$Tickets" "newest" "I", .fieldLink RX3 15 "Alarmgrove$Tickets" "targets" "[I"] ++ wsX30)
def wsX4_init_r1 : List Cond := [Cond.methodLink RX4 1 objectInit, Cond.instanceMethod objectInit, Cond.code objectInit ⟨#[0xb1]⟩ 1 none, Cond.classLink RX4 7 RX1, Cond.instantiable RX1 4, Cond.initialized RX1, Cond.fieldLink RX4 10 "Alarmgrove" "graph" "LAlarmgrove$Graph;", Cond.classLink RX4 16 RX2, Cond.instantiable RX2 6, Cond.initialized RX2, Cond.fieldLink RX4 19 "Alarmgrove" "log" "LAlarmgrove$Log;", Cond.classLink RX4 23 RX3, Cond.instantiable RX3 3, Cond.initialized RX3, Cond.fieldLink RX4 26 "Alarmgrove" "tickets" "LAlarmgrove$Tickets;", Cond.fieldLink RX4 30 "Alarmgrove" "raised" "I", Cond.fieldLink RX4 34 "Alarmgrove" "time" "I", Cond.instanceMethod yX1_init, Cond.code yX1_init cX1_init 1 none, Cond.methodLink RX1 3 objectInit, Cond.arrayClass .int, Cond.fieldLink RX1 9 "Alarmgrove$Graph" "needed" "[I", Cond.fieldLink RX1 15 "Alarmgrove$Graph" "users" "[I", Cond.fieldLink RX1 18 "Alarmgrove$Graph" "below" "[I"]
def wsX4_init_r2 : List Cond := [Cond.fieldLink RX1 21 "Alarmgrove$Graph" "above" "[I", Cond.instanceMethod yX2_init, Cond.code yX2_init cX2_init 1 none, Cond.methodLink RX2 3 objectInit, Cond.fieldLink RX2 9 "Alarmgrove$Log" "kinds" "[I", Cond.fieldLink RX2 15 "Alarmgrove$Log" "nodes" "[I", Cond.fieldLink RX2 18 "Alarmgrove$Log" "times" "[I", Cond.fieldLink RX2 21 "Alarmgrove$Log" "lengths" "[I", Cond.fieldLink RX2 24 "Alarmgrove$Log" "raisedAt" "[I", Cond.fieldLink RX2 27 "Alarmgrove$Log" "count" "I", Cond.methodLink RX4 25 yX3_init, Cond.instanceMethod yX3_init, Cond.code yX3_init cX3_init 2 none, Cond.methodLink RX3 3 objectInit, Cond.fieldLink RX3 9 "Alarmgrove$Tickets" "numbers" "[I", Cond.fieldLink RX3 15 "Alarmgrove$Tickets" "targets" "[I", Cond.fieldLink RX3 18 "Alarmgrove$Tickets" "newest" "I"]
def wsX4_init : List Cond := .code yX4_init cX4_init 1 none :: ((wsX4_init_r1 ++ wsX4_init_r2) ++ wsX10 ++ wsX40 ++ wsX20 ++ wsX30)
def wsX4_checkNode : List Cond := .code yX4_checkNode cX4_checkNode 1 none :: ([.classLink RX4 166 "java/lang/IndexOutOfBoundsException", .initialized "java/lang/IndexOutOfBoundsException"] ++ (vx_atS RX4 170 "java/lang/IndexOutOfBoundsException" ["java/lang/RuntimeException", "java/lang/Exception"]).filter goodWord)
def wsX4_need_r1 : List Cond := [Cond.classLink RX4 49 "java/lang/IllegalArgumentException", Cond.initialized "java/lang/IllegalArgumentException", Cond.fieldLink RX4 10 "Alarmgrove" "graph" "LAlarmgrove$Graph;", Cond.methodLink RX4 37 yX4_checkNode, Cond.static yX4_checkNode, Cond.initialized RX4, Cond.code yX4_checkNode cX4_checkNode 1 none, Cond.classLink RX4 166 "java/lang/IndexOutOfBoundsException", Cond.initialized "java/lang/IndexOutOfBoundsException", Cond.methodLink RX4 41 yX1_below, Cond.instanceMethod yX1_below, Cond.selects RX1 yX1_below yX1_below, Cond.initialized RX1, Cond.code yX1_below cX1_below 2 (some .int), Cond.fieldLink RX1 18 "Alarmgrove$Graph" "below" "[I", Cond.methodLink RX4 45 yX4_has, Cond.static yX4_has, Cond.code yX4_has cX4_has 2 (some .boolean), Cond.methodLink RX4 82 yX4_only, Cond.static yX4_only, Cond.code yX4_only cX4_only 1 (some .int), Cond.methodLink RX4 56 yX1_link, Cond.instanceMethod yX1_link, Cond.selects RX1 yX1_link yX1_link]
def wsX4_need_r2 : List Cond := [Cond.code yX1_link cX1_link 3 (some .boolean), Cond.fieldLink RX1 9 "Alarmgrove$Graph" "needed" "[I", Cond.fieldLink RX1 15 "Alarmgrove$Graph" "users" "[I", Cond.methodLink RX1 32 yX1_followAll, Cond.instanceMethod yX1_followAll, Cond.selects RX1 yX1_followAll yX1_followAll, Cond.code yX1_followAll cX1_followAll 2 none, Cond.fieldLink RX1 21 "Alarmgrove$Graph" "above" "[I", Cond.methodLink RX1 39 yX1_follow, Cond.static yX1_follow, Cond.code yX1_follow cX1_follow 5 (some .int), Cond.methodLink RX1 35 yX1_step, Cond.static yX1_step, Cond.code yX1_step cX1_step 4 (some .int)]
def wsX4_need : List Cond := .code yX4_need cX4_need 3 (some .boolean) :: ((wsX4_need_r1 ++ wsX4_need_r2) ++ wsX40 ++ wsX10 ++ (vx_atS RX4 53 "java/lang/IllegalArgumentException" ["java/lang/RuntimeException", "java/lang/Exception"]).filter goodWord ++ (vx_atS RX4 170 "java/lang/IndexOutOfBoundsException" ["java/lang/RuntimeException", "java/lang/Exception"]).filter goodWord)
def wsX4_release_r1 : List Cond := [Cond.fieldLink RX4 10 "Alarmgrove" "graph" "LAlarmgrove$Graph;", Cond.methodLink RX4 37 yX4_checkNode, Cond.static yX4_checkNode, Cond.initialized RX4, Cond.code yX4_checkNode cX4_checkNode 1 none, Cond.classLink RX4 166 "java/lang/IndexOutOfBoundsException", Cond.initialized "java/lang/IndexOutOfBoundsException", Cond.methodLink RX4 59 yX1_unlink, Cond.instanceMethod yX1_unlink, Cond.selects RX1 yX1_unlink yX1_unlink, Cond.initialized RX1, Cond.code yX1_unlink cX1_unlink 3 (some .boolean), Cond.fieldLink RX1 9 "Alarmgrove$Graph" "needed" "[I", Cond.fieldLink RX1 15 "Alarmgrove$Graph" "users" "[I", Cond.static yX4_has, Cond.code yX4_has cX4_has 2 (some .boolean), Cond.methodLink RX4 82 yX4_only, Cond.static yX4_only, Cond.code yX4_only cX4_only 1 (some .int), Cond.methodLink RX1 32 yX1_followAll, Cond.instanceMethod yX1_followAll, Cond.selects RX1 yX1_followAll yX1_followAll, Cond.code yX1_followAll cX1_followAll 2 none, Cond.fieldLink RX1 18 "Alarmgrove$Graph" "below" "[I"]
def wsX4_release_r2 : List Cond := [Cond.fieldLink RX1 21 "Alarmgrove$Graph" "above" "[I", Cond.methodLink RX1 39 yX1_follow, Cond.static yX1_follow, Cond.code yX1_follow cX1_follow 5 (some .int), Cond.methodLink RX1 35 yX1_step, Cond.static yX1_step, Cond.code yX1_step cX1_step 4 (some .int)]
def wsX4_release : List Cond := .code yX4_release cX4_release 3 (some .boolean) :: ((wsX4_release_r1 ++ wsX4_release_r2) ++ wsX40 ++ wsX10 ++ (vx_atS RX4 170 "java/lang/IndexOutOfBoundsException" ["java/lang/RuntimeException", "java/lang/Exception"]).filter goodWord)
def wsX4_needs : List Cond := .code yX4_needs cX4_needs 3 (some .boolean) :: ([.fieldLink RX4 10 "Alarmgrove" "graph" "LAlarmgrove$Graph;", .methodLink RX4 37 yX4_checkNode, .static yX4_checkNode, .initialized RX4, .code yX4_checkNode cX4_checkNode 1 none, .classLink RX4 166 "java/lang/IndexOutOfBoundsException", .initialized "java/lang/IndexOutOfBoundsException", .methodLink RX4 62 yX1_needed, .instanceMethod yX1_needed, .selects RX1 yX1_needed yX1_needed, .initialized RX1, .code yX1_needed cX1_needed 2 (some .int), .fieldLink RX1 9 "Alarmgrove$Graph" "needed" "[I", .methodLink RX4 45 yX4_has, .static yX4_has, .code yX4_has cX4_has 2 (some .boolean), .methodLink RX4 82 yX4_only, .static yX4_only, .code yX4_only cX4_only 1 (some .int)] ++ wsX40 ++ wsX10 ++ (vx_atS RX4 170 "java/lang/IndexOutOfBoundsException" ["java/lang/RuntimeException", "java/lang/Exception"]).filter goodWord)
def wsX4_dependsOn : List Cond := .code yX4_dependsOn cX4_dependsOn 3 (some .boolean) :: ([.fieldLink RX4 10 "Alarmgrove" "graph" "LAlarmgrove$Graph;", .methodLink RX4 37 yX4_checkNode, .static yX4_checkNode, .initialized RX4, .code yX4_checkNode cX4_checkNode 1 none, .classLink RX4 166 "java/lang/IndexOutOfBoundsException", .initialized "java/lang/IndexOutOfBoundsException", .methodLink RX4 41 yX1_below, .instanceMethod yX1_below, .selects RX1 yX1_below yX1_below, .initialized RX1, .code yX1_below cX1_below 2 (some .int), .fieldLink RX1 18 "Alarmgrove$Graph" "below" "[I", .methodLink RX4 45 yX4_has, .static yX4_has, .code yX4_has cX4_has 2 (some .boolean), .methodLink RX4 82 yX4_only, .static yX4_only, .code yX4_only cX4_only 1 (some .int)] ++ wsX40 ++ wsX10 ++ (vx_atS RX4 170 "java/lang/IndexOutOfBoundsException" ["java/lang/RuntimeException", "java/lang/Exception"]).filter goodWord)
def wsX4_height : List Cond := .code yX4_height cX4_height 2 (some .int) :: ([.fieldLink RX4 10 "Alarmgrove" "graph" "LAlarmgrove$Graph;", .methodLink RX4 37 yX4_checkNode, .static yX4_checkNode, .initialized RX4, .code yX4_checkNode cX4_checkNode 1 none, .classLink RX4 166 "java/lang/IndexOutOfBoundsException", .initialized "java/lang/IndexOutOfBoundsException", .methodLink RX4 65 yX1_longestWayDown, .instanceMethod yX1_longestWayDown, .selects RX1 yX1_longestWayDown yX1_longestWayDown, .initialized RX1, .code yX1_longestWayDown cX1_longestWayDown 4 (some .int), .fieldLink RX1 9 "Alarmgrove$Graph" "needed" "[I", .static yX4_only, .code yX4_only cX4_only 1 (some .int), .methodLink RX1 35 yX1_step, .static yX1_step, .code yX1_step cX1_step 4 (some .int), .static yX4_has, .code yX4_has cX4_has 2 (some .boolean), .methodLink RX4 82 yX4_only] ++ wsX40 ++ wsX10 ++ (vx_atS RX4 170 "java/lang/IndexOutOfBoundsException" ["java/lang/RuntimeException", "java/lang/Exception"]).filter goodWord)
def wsX4_checkTicks : List Cond := .code yX4_checkTicks cX4_checkTicks 2 none :: ([.classLink RX4 49 "java/lang/IllegalArgumentException", .initialized "java/lang/IllegalArgumentException"] ++ (vx_atS RX4 53 "java/lang/IllegalArgumentException" ["java/lang/RuntimeException", "java/lang/Exception"]).filter goodWord)
def wsX4_tick : List Cond := .code yX4_tick cX4_tick 2 (some .int) :: ([.fieldLink RX4 34 "Alarmgrove" "time" "I", .methodLink RX4 68 yX4_checkTicks, .static yX4_checkTicks, .initialized RX4, .code yX4_checkTicks cX4_checkTicks 2 none, .classLink RX4 49 "java/lang/IllegalArgumentException", .initialized "java/lang/IllegalArgumentException"] ++ wsX40 ++ (vx_atS RX4 53 "java/lang/IllegalArgumentException" ["java/lang/RuntimeException", "java/lang/Exception"]).filter goodWord)
def wsX4_now : List Cond := .code yX4_now cX4_now 1 (some .int) :: ([.fieldLink RX4 34 "Alarmgrove" "time" "I"] ++ wsX40)
def wsX4_checkChange : List Cond := .code yX4_checkChange cX4_checkChange 2 none :: ([.classLink RX4 188 "java/lang/IllegalStateException", .initialized "java/lang/IllegalStateException", .fieldLink RX4 19 "Alarmgrove" "log" "LAlarmgrove$Log;", .methodLink RX4 184 yX2_isFull, .instanceMethod yX2_isFull, .selects RX2 yX2_isFull yX2_isFull, .initialized RX2, .code yX2_isFull cX2_isFull 1 (some .boolean), .fieldLink RX2 27 "Alarmgrove$Log" "count" "I"] ++ wsX40 ++ wsX20 ++ (vx_atS RX4 192 "java/lang/IllegalStateException" ["java/lang/RuntimeException", "java/lang/Exception"]).filter goodWord)
def wsX4_raise_r1 : List Cond := [Cond.fieldLink RX4 30 "Alarmgrove" "raised" "I", Cond.fieldLink RX4 19 "Alarmgrove" "log" "LAlarmgrove$Log;", Cond.fieldLink RX4 34 "Alarmgrove" "time" "I", Cond.fieldLink RX4 10 "Alarmgrove" "graph" "LAlarmgrove$Graph;", Cond.fieldLink RX4 26 "Alarmgrove" "tickets" "LAlarmgrove$Tickets;", Cond.methodLink RX4 37 yX4_checkNode, Cond.static yX4_checkNode, Cond.initialized RX4, Cond.code yX4_checkNode cX4_checkNode 1 none, Cond.classLink RX4 166 "java/lang/IndexOutOfBoundsException", Cond.initialized "java/lang/IndexOutOfBoundsException", Cond.methodLink RX4 45 yX4_has, Cond.static yX4_has, Cond.code yX4_has cX4_has 2 (some .boolean), Cond.methodLink RX4 82 yX4_only, Cond.static yX4_only, Cond.code yX4_only cX4_only 1 (some .int), Cond.methodLink RX4 72 yX4_checkChange, Cond.instanceMethod yX4_checkChange, Cond.selects RX4 yX4_checkChange yX4_checkChange, Cond.code yX4_checkChange cX4_checkChange 2 none, Cond.classLink RX4 188 "java/lang/IllegalStateException", Cond.initialized "java/lang/IllegalStateException", Cond.methodLink RX4 184 yX2_isFull]
def wsX4_raise_r2 : List Cond := [Cond.instanceMethod yX2_isFull, Cond.selects RX2 yX2_isFull yX2_isFull, Cond.initialized RX2, Cond.code yX2_isFull cX2_isFull 1 (some .boolean), Cond.fieldLink RX2 27 "Alarmgrove$Log" "count" "I", Cond.methodLink RX4 76 yX2_addRaise, Cond.instanceMethod yX2_addRaise, Cond.selects RX2 yX2_addRaise yX2_addRaise, Cond.code yX2_addRaise cX2_addRaise 3 none, Cond.fieldLink RX2 24 "Alarmgrove$Log" "raisedAt" "[I", Cond.methodLink RX2 31 yX2_add, Cond.instanceMethod yX2_add, Cond.selects RX2 yX2_add yX2_add, Cond.code yX2_add cX2_add 5 none, Cond.fieldLink RX2 9 "Alarmgrove$Log" "kinds" "[I", Cond.fieldLink RX2 15 "Alarmgrove$Log" "nodes" "[I", Cond.fieldLink RX2 18 "Alarmgrove$Log" "times" "[I", Cond.fieldLink RX2 21 "Alarmgrove$Log" "lengths" "[I", Cond.methodLink RX4 41 yX1_below, Cond.instanceMethod yX1_below, Cond.selects RX1 yX1_below yX1_below, Cond.initialized RX1, Cond.code yX1_below cX1_below 2 (some .int), Cond.fieldLink RX1 18 "Alarmgrove$Graph" "below" "[I"]
def wsX4_raise_r3 : List Cond := [Cond.methodLink RX4 79 yX1_above, Cond.instanceMethod yX1_above, Cond.selects RX1 yX1_above yX1_above, Cond.code yX1_above cX1_above 2 (some .int), Cond.fieldLink RX1 21 "Alarmgrove$Graph" "above" "[I", Cond.methodLink RX4 85 yX3_join, Cond.instanceMethod yX3_join, Cond.selects RX3 yX3_join yX3_join, Cond.initialized RX3, Cond.code yX3_join cX3_join 3 (some .int), Cond.fieldLink RX3 18 "Alarmgrove$Tickets" "newest" "I", Cond.fieldLink RX3 9 "Alarmgrove$Tickets" "numbers" "[I", Cond.methodLink RX3 33 yX3_unite, Cond.instanceMethod yX3_unite, Cond.selects RX3 yX3_unite yX3_unite, Cond.code yX3_unite cX3_unite 4 (some .int), Cond.methodLink RX3 40 Lib.Math.min.name, Cond.static Lib.Math.min.name, Cond.initialized "java/lang/Math", Cond.code Lib.Math.min.name Lib.Math.min.code 2 (some .int), Cond.methodLink RX3 46 yX3_merge, Cond.instanceMethod yX3_merge, Cond.selects RX3 yX3_merge yX3_merge, Cond.code yX3_merge cX3_merge 4 none]
def wsX4_raise_r4 : List Cond := [Cond.fieldLink RX3 15 "Alarmgrove$Tickets" "targets" "[I", Cond.methodLink RX3 22 yX3_isUsed, Cond.instanceMethod yX3_isUsed, Cond.selects RX3 yX3_isUsed yX3_isUsed, Cond.code yX3_isUsed cX3_isUsed 2 (some .boolean)]
def wsX4_raise : List Cond := .code yX4_raise cX4_raise 3 (some .int) :: ((wsX4_raise_r1 ++ (wsX4_raise_r2 ++ (wsX4_raise_r3 ++ wsX4_raise_r4))) ++ wsX40 ++ wsX20 ++ wsX10 ++ wsX30 ++ (vx_atS RX4 170 "java/lang/IndexOutOfBoundsException" ["java/lang/RuntimeException", "java/lang/Exception"]).filter goodWord ++ (vx_atS RX4 192 "java/lang/IllegalStateException" ["java/lang/RuntimeException", "java/lang/Exception"]).filter goodWord)
def wsX4_clear_r1 : List Cond := [Cond.fieldLink RX4 30 "Alarmgrove" "raised" "I", Cond.fieldLink RX4 19 "Alarmgrove" "log" "LAlarmgrove$Log;", Cond.fieldLink RX4 34 "Alarmgrove" "time" "I", Cond.fieldLink RX4 26 "Alarmgrove" "tickets" "LAlarmgrove$Tickets;", Cond.methodLink RX4 37 yX4_checkNode, Cond.static yX4_checkNode, Cond.initialized RX4, Cond.code yX4_checkNode cX4_checkNode 1 none, Cond.classLink RX4 166 "java/lang/IndexOutOfBoundsException", Cond.initialized "java/lang/IndexOutOfBoundsException", Cond.methodLink RX4 45 yX4_has, Cond.static yX4_has, Cond.code yX4_has cX4_has 2 (some .boolean), Cond.methodLink RX4 82 yX4_only, Cond.static yX4_only, Cond.code yX4_only cX4_only 1 (some .int), Cond.methodLink RX4 72 yX4_checkChange, Cond.instanceMethod yX4_checkChange, Cond.selects RX4 yX4_checkChange yX4_checkChange, Cond.code yX4_checkChange cX4_checkChange 2 none, Cond.classLink RX4 188 "java/lang/IllegalStateException", Cond.initialized "java/lang/IllegalStateException", Cond.methodLink RX4 184 yX2_isFull, Cond.instanceMethod yX2_isFull]
def wsX4_clear_r2 : List Cond := [Cond.selects RX2 yX2_isFull yX2_isFull, Cond.initialized RX2, Cond.code yX2_isFull cX2_isFull 1 (some .boolean), Cond.fieldLink RX2 27 "Alarmgrove$Log" "count" "I", Cond.methodLink RX4 89 yX2_addClear, Cond.instanceMethod yX2_addClear, Cond.selects RX2 yX2_addClear yX2_addClear, Cond.code yX2_addClear cX2_addClear 3 none, Cond.fieldLink RX2 24 "Alarmgrove$Log" "raisedAt" "[I", Cond.methodLink RX2 31 yX2_add, Cond.instanceMethod yX2_add, Cond.selects RX2 yX2_add yX2_add, Cond.code yX2_add cX2_add 5 none, Cond.fieldLink RX2 9 "Alarmgrove$Log" "kinds" "[I", Cond.fieldLink RX2 15 "Alarmgrove$Log" "nodes" "[I", Cond.fieldLink RX2 18 "Alarmgrove$Log" "times" "[I", Cond.fieldLink RX2 21 "Alarmgrove$Log" "lengths" "[I", Cond.methodLink RX4 92 yX3_leave, Cond.instanceMethod yX3_leave, Cond.selects RX3 yX3_leave yX3_leave, Cond.initialized RX3, Cond.code yX3_leave cX3_leave 3 (some .int), Cond.fieldLink RX3 9 "Alarmgrove$Tickets" "numbers" "[I", Cond.methodLink RX3 26 yX3_sizeOf]
def wsX4_clear_r3 : List Cond := [Cond.instanceMethod yX3_sizeOf, Cond.selects RX3 yX3_sizeOf yX3_sizeOf, Cond.code yX3_sizeOf cX3_sizeOf 4 (some .int), Cond.methodLink RX3 22 yX3_isUsed, Cond.instanceMethod yX3_isUsed, Cond.selects RX3 yX3_isUsed yX3_isUsed, Cond.code yX3_isUsed cX3_isUsed 2 (some .boolean), Cond.fieldLink RX3 18 "Alarmgrove$Tickets" "newest" "I", Cond.fieldLink RX3 15 "Alarmgrove$Tickets" "targets" "[I"]
def wsX4_clear : List Cond := .code yX4_clear cX4_clear 2 (some .int) :: ((wsX4_clear_r1 ++ (wsX4_clear_r2 ++ wsX4_clear_r3)) ++ wsX40 ++ wsX20 ++ wsX30 ++ (vx_atS RX4 170 "java/lang/IndexOutOfBoundsException" ["java/lang/RuntimeException", "java/lang/Exception"]).filter goodWord ++ (vx_atS RX4 192 "java/lang/IllegalStateException" ["java/lang/RuntimeException", "java/lang/Exception"]).filter goodWord)
def wsX4_events : List Cond := .code yX4_events cX4_events 1 (some .int) :: ([.fieldLink RX4 19 "Alarmgrove" "log" "LAlarmgrove$Log;", .methodLink RX4 103 yX2_count, .instanceMethod yX2_count, .selects RX2 yX2_count yX2_count, .initialized RX2, .code yX2_count cX2_count 1 (some .int), .fieldLink RX2 27 "Alarmgrove$Log" "count" "I"] ++ wsX40 ++ wsX20)
def wsX4_ticketOf : List Cond := .code yX4_ticketOf cX4_ticketOf 2 (some .int) :: ([.fieldLink RX4 26 "Alarmgrove" "tickets" "LAlarmgrove$Tickets;", .methodLink RX4 37 yX4_checkNode, .static yX4_checkNode, .initialized RX4, .code yX4_checkNode cX4_checkNode 1 none, .classLink RX4 166 "java/lang/IndexOutOfBoundsException", .initialized "java/lang/IndexOutOfBoundsException", .methodLink RX4 125 yX3_numberOf, .instanceMethod yX3_numberOf, .selects RX3 yX3_numberOf yX3_numberOf, .initialized RX3, .code yX3_numberOf cX3_numberOf 2 (some .int), .fieldLink RX3 9 "Alarmgrove$Tickets" "numbers" "[I"] ++ wsX40 ++ wsX30 ++ (vx_atS RX4 170 "java/lang/IndexOutOfBoundsException" ["java/lang/RuntimeException", "java/lang/Exception"]).filter goodWord)
def wsX4_diagnoser_r1 : List Cond := [Cond.classLink RX4 142 RX0, Cond.instantiable RX0 3, Cond.initialized RX0, Cond.fieldLink RX4 10 "Alarmgrove" "graph" "LAlarmgrove$Graph;", Cond.fieldLink RX4 30 "Alarmgrove" "raised" "I", Cond.methodLink RX4 177 yX0_init, Cond.instanceMethod yX0_init, Cond.code yX0_init cX0_init 3 none, Cond.methodLink RX0 3 objectInit, Cond.instanceMethod objectInit, Cond.code objectInit ⟨#[0xb1]⟩ 1 none, Cond.fieldLink RX0 9 "Alarmgrove$Diagnoser" "graph" "LAlarmgrove$Graph;", Cond.fieldLink RX0 15 "Alarmgrove$Diagnoser" "raised" "I", Cond.fieldLink RX0 23 "Alarmgrove$Diagnoser" "plausible" "I", Cond.methodLink RX0 19 yX0_plausibleOf, Cond.static yX0_plausibleOf, Cond.code yX0_plausibleOf cX0_plausibleOf 5 (some .int), Cond.methodLink RX0 65 yX1_users, Cond.instanceMethod yX1_users, Cond.selects RX1 yX1_users yX1_users, Cond.initialized RX1, Cond.code yX1_users cX1_users 2 (some .int), Cond.fieldLink RX1 15 "Alarmgrove$Graph" "users" "[I", Cond.static yX4_only]
def wsX4_diagnoser_r2 : List Cond := [Cond.initialized RX4, Cond.code yX4_only cX4_only 1 (some .int)]
def wsX4_diagnoser : List Cond := .code yX4_diagnoser cX4_diagnoser 1 (some (.object "Alarmgrove$Diagnoser")) :: ((wsX4_diagnoser_r1 ++ wsX4_diagnoser_r2) ++ wsX00 ++ wsX40 ++ wsX10)
def wsX4_isPlausible_r1 : List Cond := [Cond.methodLink RX4 37 yX4_checkNode, Cond.static yX4_checkNode, Cond.initialized RX4, Cond.code yX4_checkNode cX4_checkNode 1 none, Cond.classLink RX4 166 "java/lang/IndexOutOfBoundsException", Cond.initialized "java/lang/IndexOutOfBoundsException", Cond.methodLink RX4 137 yX4_diagnoser, Cond.instanceMethod yX4_diagnoser, Cond.selects RX4 yX4_diagnoser yX4_diagnoser, Cond.code yX4_diagnoser cX4_diagnoser 1 (some (.object "Alarmgrove$Diagnoser")), Cond.classLink RX4 142 RX0, Cond.instantiable RX0 3, Cond.initialized RX0, Cond.fieldLink RX4 10 "Alarmgrove" "graph" "LAlarmgrove$Graph;", Cond.fieldLink RX4 30 "Alarmgrove" "raised" "I", Cond.methodLink RX4 177 yX0_init, Cond.instanceMethod yX0_init, Cond.code yX0_init cX0_init 3 none, Cond.methodLink RX0 3 objectInit, Cond.instanceMethod objectInit, Cond.code objectInit ⟨#[0xb1]⟩ 1 none, Cond.fieldLink RX0 9 "Alarmgrove$Diagnoser" "graph" "LAlarmgrove$Graph;", Cond.fieldLink RX0 15 "Alarmgrove$Diagnoser" "raised" "I", Cond.fieldLink RX0 23 "Alarmgrove$Diagnoser" "plausible" "I"]
def wsX4_isPlausible_r2 : List Cond := [Cond.methodLink RX0 19 yX0_plausibleOf, Cond.static yX0_plausibleOf, Cond.code yX0_plausibleOf cX0_plausibleOf 5 (some .int), Cond.methodLink RX0 65 yX1_users, Cond.instanceMethod yX1_users, Cond.selects RX1 yX1_users yX1_users, Cond.initialized RX1, Cond.code yX1_users cX1_users 2 (some .int), Cond.fieldLink RX1 15 "Alarmgrove$Graph" "users" "[I", Cond.static yX4_only, Cond.code yX4_only cX4_only 1 (some .int), Cond.methodLink RX4 141 yX0_plausibleNodes, Cond.instanceMethod yX0_plausibleNodes, Cond.selects RX0 yX0_plausibleNodes yX0_plausibleNodes, Cond.code yX0_plausibleNodes cX0_plausibleNodes 1 (some .int), Cond.methodLink RX4 45 yX4_has, Cond.static yX4_has, Cond.code yX4_has cX4_has 2 (some .boolean), Cond.methodLink RX4 82 yX4_only]
def wsX4_isPlausible : List Cond := .code yX4_isPlausible cX4_isPlausible 2 (some .boolean) :: ((wsX4_isPlausible_r1 ++ wsX4_isPlausible_r2) ++ wsX00 ++ wsX40 ++ wsX10 ++ (vx_atS RX4 170 "java/lang/IndexOutOfBoundsException" ["java/lang/RuntimeException", "java/lang/Exception"]).filter goodWord)
def wsX4_causes_r1 : List Cond := [Cond.methodLink RX4 137 yX4_diagnoser, Cond.instanceMethod yX4_diagnoser, Cond.selects RX4 yX4_diagnoser yX4_diagnoser, Cond.initialized RX4, Cond.code yX4_diagnoser cX4_diagnoser 1 (some (.object "Alarmgrove$Diagnoser")), Cond.classLink RX4 142 RX0, Cond.instantiable RX0 3, Cond.initialized RX0, Cond.fieldLink RX4 10 "Alarmgrove" "graph" "LAlarmgrove$Graph;", Cond.fieldLink RX4 30 "Alarmgrove" "raised" "I", Cond.methodLink RX4 177 yX0_init, Cond.instanceMethod yX0_init, Cond.code yX0_init cX0_init 3 none, Cond.methodLink RX0 3 objectInit, Cond.instanceMethod objectInit, Cond.code objectInit ⟨#[0xb1]⟩ 1 none, Cond.fieldLink RX0 9 "Alarmgrove$Diagnoser" "graph" "LAlarmgrove$Graph;", Cond.fieldLink RX0 15 "Alarmgrove$Diagnoser" "raised" "I", Cond.fieldLink RX0 23 "Alarmgrove$Diagnoser" "plausible" "I", Cond.methodLink RX0 19 yX0_plausibleOf, Cond.static yX0_plausibleOf, Cond.code yX0_plausibleOf cX0_plausibleOf 5 (some .int), Cond.methodLink RX0 65 yX1_users, Cond.instanceMethod yX1_users]
def wsX4_causes_r2 : List Cond := [Cond.selects RX1 yX1_users yX1_users, Cond.initialized RX1, Cond.code yX1_users cX1_users 2 (some .int), Cond.fieldLink RX1 15 "Alarmgrove$Graph" "users" "[I", Cond.static yX4_only, Cond.code yX4_only cX4_only 1 (some .int), Cond.methodLink RX4 146 yX0_bestBySearch, Cond.instanceMethod yX0_bestBySearch, Cond.selects RX0 yX0_bestBySearch yX0_bestBySearch, Cond.code yX0_bestBySearch cX0_bestBySearch 1 (some .int), Cond.methodLink RX0 26 yX0_search, Cond.static yX0_search, Cond.code yX0_search cX0_search 13 (some .int), Cond.static yX4_nodeAtPlace, Cond.code yX4_nodeAtPlace cX4_nodeAtPlace 4 (some .int), Cond.methodLink RX4 45 yX4_has, Cond.static yX4_has, Cond.code yX4_has cX4_has 2 (some .boolean), Cond.methodLink RX4 82 yX4_only, Cond.methodLink RX0 36 yX0_isBetter, Cond.instanceMethod yX0_isBetter, Cond.selects RX0 yX0_isBetter yX0_isBetter, Cond.code yX0_isBetter cX0_isBetter 8 (some .boolean), Cond.methodLink RX0 30 yJ6_bitCount_0f7a4]
def wsX4_causes_r3 : List Cond := [Cond.static yJ6_bitCount_0f7a4, Cond.initialized RJ6, Cond.code yJ6_bitCount_0f7a4 cJ6_bitCount_0f7a4 1 (some .int), Cond.constant RJ6 265 (1431655765), Cond.constant RJ6 266 (858993459), Cond.constant RJ6 267 (252645135), Cond.methodLink RX0 59 yX1_explainersOf, Cond.instanceMethod yX1_explainersOf, Cond.selects RX1 yX1_explainersOf yX1_explainersOf, Cond.code yX1_explainersOf cX1_explainersOf 2 (some .int), Cond.fieldLink RX1 18 "Alarmgrove$Graph" "below" "[I", Cond.methodLink RX0 47 yX1_explainedBy, Cond.instanceMethod yX1_explainedBy, Cond.selects RX1 yX1_explainedBy yX1_explainedBy, Cond.code yX1_explainedBy cX1_explainedBy 2 (some .int), Cond.fieldLink RX1 21 "Alarmgrove$Graph" "above" "[I", Cond.methodLink RX4 149 yJ6_bitCount_0f7a4]
def wsX4_causes : List Cond := .code yX4_causes cX4_causes 1 (some .int) :: ((wsX4_causes_r1 ++ (wsX4_causes_r2 ++ wsX4_causes_r3)) ++ wsX00 ++ wsX40 ++ wsX10)
def wsX4_nodeThere : List Cond := .code yX4_nodeThere cX4_nodeThere 3 (some .int) :: ([.classLink RX4 166 "java/lang/IndexOutOfBoundsException", .initialized "java/lang/IndexOutOfBoundsException", .methodLink RX4 174 yX4_nodeAtPlace, .static yX4_nodeAtPlace, .initialized RX4, .code yX4_nodeAtPlace cX4_nodeAtPlace 4 (some .int), .methodLink RX4 45 yX4_has, .static yX4_has, .code yX4_has cX4_has 2 (some .boolean), .methodLink RX4 82 yX4_only, .static yX4_only, .code yX4_only cX4_only 1 (some .int)] ++ (vx_atS RX4 170 "java/lang/IndexOutOfBoundsException" ["java/lang/RuntimeException", "java/lang/Exception"]).filter goodWord)
def wsX4_cause_r1 : List Cond := [Cond.methodLink RX4 137 yX4_diagnoser, Cond.instanceMethod yX4_diagnoser, Cond.selects RX4 yX4_diagnoser yX4_diagnoser, Cond.initialized RX4, Cond.code yX4_diagnoser cX4_diagnoser 1 (some (.object "Alarmgrove$Diagnoser")), Cond.classLink RX4 142 RX0, Cond.instantiable RX0 3, Cond.initialized RX0, Cond.fieldLink RX4 10 "Alarmgrove" "graph" "LAlarmgrove$Graph;", Cond.fieldLink RX4 30 "Alarmgrove" "raised" "I", Cond.methodLink RX4 177 yX0_init, Cond.instanceMethod yX0_init, Cond.code yX0_init cX0_init 3 none, Cond.methodLink RX0 3 objectInit, Cond.instanceMethod objectInit, Cond.code objectInit ⟨#[0xb1]⟩ 1 none, Cond.fieldLink RX0 9 "Alarmgrove$Diagnoser" "graph" "LAlarmgrove$Graph;", Cond.fieldLink RX0 15 "Alarmgrove$Diagnoser" "raised" "I", Cond.fieldLink RX0 23 "Alarmgrove$Diagnoser" "plausible" "I", Cond.methodLink RX0 19 yX0_plausibleOf, Cond.static yX0_plausibleOf, Cond.code yX0_plausibleOf cX0_plausibleOf 5 (some .int), Cond.methodLink RX0 65 yX1_users, Cond.instanceMethod yX1_users]
def wsX4_cause_r2 : List Cond := [Cond.selects RX1 yX1_users yX1_users, Cond.initialized RX1, Cond.code yX1_users cX1_users 2 (some .int), Cond.fieldLink RX1 15 "Alarmgrove$Graph" "users" "[I", Cond.static yX4_only, Cond.code yX4_only cX4_only 1 (some .int), Cond.methodLink RX4 146 yX0_bestBySearch, Cond.instanceMethod yX0_bestBySearch, Cond.selects RX0 yX0_bestBySearch yX0_bestBySearch, Cond.code yX0_bestBySearch cX0_bestBySearch 1 (some .int), Cond.methodLink RX0 26 yX0_search, Cond.static yX0_search, Cond.code yX0_search cX0_search 13 (some .int), Cond.static yX4_nodeAtPlace, Cond.code yX4_nodeAtPlace cX4_nodeAtPlace 4 (some .int), Cond.methodLink RX4 45 yX4_has, Cond.static yX4_has, Cond.code yX4_has cX4_has 2 (some .boolean), Cond.methodLink RX4 82 yX4_only, Cond.methodLink RX0 36 yX0_isBetter, Cond.instanceMethod yX0_isBetter, Cond.selects RX0 yX0_isBetter yX0_isBetter, Cond.code yX0_isBetter cX0_isBetter 8 (some .boolean), Cond.methodLink RX0 30 yJ6_bitCount_0f7a4]
def wsX4_cause_r3 : List Cond := [Cond.static yJ6_bitCount_0f7a4, Cond.initialized RJ6, Cond.code yJ6_bitCount_0f7a4 cJ6_bitCount_0f7a4 1 (some .int), Cond.constant RJ6 265 (1431655765), Cond.constant RJ6 266 (858993459), Cond.constant RJ6 267 (252645135), Cond.methodLink RX0 59 yX1_explainersOf, Cond.instanceMethod yX1_explainersOf, Cond.selects RX1 yX1_explainersOf yX1_explainersOf, Cond.code yX1_explainersOf cX1_explainersOf 2 (some .int), Cond.fieldLink RX1 18 "Alarmgrove$Graph" "below" "[I", Cond.methodLink RX0 47 yX1_explainedBy, Cond.instanceMethod yX1_explainedBy, Cond.selects RX1 yX1_explainedBy yX1_explainedBy, Cond.code yX1_explainedBy cX1_explainedBy 2 (some .int), Cond.fieldLink RX1 21 "Alarmgrove$Graph" "above" "[I", Cond.methodLink RX4 154 yX4_nodeThere, Cond.static yX4_nodeThere, Cond.code yX4_nodeThere cX4_nodeThere 3 (some .int), Cond.classLink RX4 166 "java/lang/IndexOutOfBoundsException", Cond.initialized "java/lang/IndexOutOfBoundsException", Cond.methodLink RX4 174 yX4_nodeAtPlace]
def wsX4_cause : List Cond := .code yX4_cause cX4_cause 2 (some .int) :: ((wsX4_cause_r1 ++ (wsX4_cause_r2 ++ wsX4_cause_r3)) ++ wsX00 ++ wsX40 ++ wsX10 ++ (vx_atS RX4 170 "java/lang/IndexOutOfBoundsException" ["java/lang/RuntimeException", "java/lang/Exception"]).filter goodWord)
def wsX4_causeByTrying_r1 : List Cond := [Cond.methodLink RX4 137 yX4_diagnoser, Cond.instanceMethod yX4_diagnoser, Cond.selects RX4 yX4_diagnoser yX4_diagnoser, Cond.initialized RX4, Cond.code yX4_diagnoser cX4_diagnoser 1 (some (.object "Alarmgrove$Diagnoser")), Cond.classLink RX4 142 RX0, Cond.instantiable RX0 3, Cond.initialized RX0, Cond.fieldLink RX4 10 "Alarmgrove" "graph" "LAlarmgrove$Graph;", Cond.fieldLink RX4 30 "Alarmgrove" "raised" "I", Cond.methodLink RX4 177 yX0_init, Cond.instanceMethod yX0_init, Cond.code yX0_init cX0_init 3 none, Cond.methodLink RX0 3 objectInit, Cond.instanceMethod objectInit, Cond.code objectInit ⟨#[0xb1]⟩ 1 none, Cond.fieldLink RX0 9 "Alarmgrove$Diagnoser" "graph" "LAlarmgrove$Graph;", Cond.fieldLink RX0 15 "Alarmgrove$Diagnoser" "raised" "I", Cond.fieldLink RX0 23 "Alarmgrove$Diagnoser" "plausible" "I", Cond.methodLink RX0 19 yX0_plausibleOf, Cond.static yX0_plausibleOf, Cond.code yX0_plausibleOf cX0_plausibleOf 5 (some .int), Cond.methodLink RX0 65 yX1_users, Cond.instanceMethod yX1_users]
def wsX4_causeByTrying_r2 : List Cond := [Cond.selects RX1 yX1_users yX1_users, Cond.initialized RX1, Cond.code yX1_users cX1_users 2 (some .int), Cond.fieldLink RX1 15 "Alarmgrove$Graph" "users" "[I", Cond.static yX4_only, Cond.code yX4_only cX4_only 1 (some .int), Cond.methodLink RX4 157 yX0_bestByTrying, Cond.instanceMethod yX0_bestByTrying, Cond.selects RX0 yX0_bestByTrying yX0_bestByTrying, Cond.code yX0_bestByTrying cX0_bestByTrying 5 (some .int), Cond.methodLink RX0 30 yJ6_bitCount_0f7a4, Cond.static yJ6_bitCount_0f7a4, Cond.initialized RJ6, Cond.code yJ6_bitCount_0f7a4 cJ6_bitCount_0f7a4 1 (some .int), Cond.constant RJ6 265 (1431655765), Cond.constant RJ6 266 (858993459), Cond.constant RJ6 267 (252645135), Cond.methodLink RX0 36 yX0_isBetter, Cond.instanceMethod yX0_isBetter, Cond.selects RX0 yX0_isBetter yX0_isBetter, Cond.code yX0_isBetter cX0_isBetter 8 (some .boolean), Cond.static yX4_nodeAtPlace, Cond.code yX4_nodeAtPlace cX4_nodeAtPlace 4 (some .int), Cond.methodLink RX4 45 yX4_has]
def wsX4_causeByTrying_r3 : List Cond := [Cond.static yX4_has, Cond.code yX4_has cX4_has 2 (some .boolean), Cond.methodLink RX4 82 yX4_only, Cond.methodLink RX0 40 yX0_explainsAll, Cond.instanceMethod yX0_explainsAll, Cond.selects RX0 yX0_explainsAll yX0_explainsAll, Cond.code yX0_explainsAll cX0_explainsAll 3 (some .boolean), Cond.methodLink RX0 59 yX1_explainersOf, Cond.instanceMethod yX1_explainersOf, Cond.selects RX1 yX1_explainersOf yX1_explainersOf, Cond.code yX1_explainersOf cX1_explainersOf 2 (some .int), Cond.fieldLink RX1 18 "Alarmgrove$Graph" "below" "[I", Cond.methodLink RX4 154 yX4_nodeThere, Cond.static yX4_nodeThere, Cond.code yX4_nodeThere cX4_nodeThere 3 (some .int), Cond.classLink RX4 166 "java/lang/IndexOutOfBoundsException", Cond.initialized "java/lang/IndexOutOfBoundsException", Cond.methodLink RX4 174 yX4_nodeAtPlace]
def wsX4_causeByTrying : List Cond := .code yX4_causeByTrying cX4_causeByTrying 2 (some .int) :: ((wsX4_causeByTrying_r1 ++ (wsX4_causeByTrying_r2 ++ wsX4_causeByTrying_r3)) ++ wsX00 ++ wsX40 ++ wsX10 ++ (vx_atS RX4 170 "java/lang/IndexOutOfBoundsException" ["java/lang/RuntimeException", "java/lang/Exception"]).filter goodWord)
def wsX4_greedyCauses_r1 : List Cond := [Cond.methodLink RX4 137 yX4_diagnoser, Cond.instanceMethod yX4_diagnoser, Cond.selects RX4 yX4_diagnoser yX4_diagnoser, Cond.initialized RX4, Cond.code yX4_diagnoser cX4_diagnoser 1 (some (.object "Alarmgrove$Diagnoser")), Cond.classLink RX4 142 RX0, Cond.instantiable RX0 3, Cond.initialized RX0, Cond.fieldLink RX4 10 "Alarmgrove" "graph" "LAlarmgrove$Graph;", Cond.fieldLink RX4 30 "Alarmgrove" "raised" "I", Cond.methodLink RX4 177 yX0_init, Cond.instanceMethod yX0_init, Cond.code yX0_init cX0_init 3 none, Cond.methodLink RX0 3 objectInit, Cond.instanceMethod objectInit, Cond.code objectInit ⟨#[0xb1]⟩ 1 none, Cond.fieldLink RX0 9 "Alarmgrove$Diagnoser" "graph" "LAlarmgrove$Graph;", Cond.fieldLink RX0 15 "Alarmgrove$Diagnoser" "raised" "I", Cond.fieldLink RX0 23 "Alarmgrove$Diagnoser" "plausible" "I", Cond.methodLink RX0 19 yX0_plausibleOf, Cond.static yX0_plausibleOf, Cond.code yX0_plausibleOf cX0_plausibleOf 5 (some .int), Cond.methodLink RX0 65 yX1_users, Cond.instanceMethod yX1_users]
def wsX4_greedyCauses_r2 : List Cond := [Cond.selects RX1 yX1_users yX1_users, Cond.initialized RX1, Cond.code yX1_users cX1_users 2 (some .int), Cond.fieldLink RX1 15 "Alarmgrove$Graph" "users" "[I", Cond.static yX4_only, Cond.code yX4_only cX4_only 1 (some .int), Cond.methodLink RX4 160 yX0_greedyCount, Cond.instanceMethod yX0_greedyCount, Cond.selects RX0 yX0_greedyCount yX0_greedyCount, Cond.code yX0_greedyCount cX0_greedyCount 3 (some .int), Cond.methodLink RX0 44 yX0_greedyNext, Cond.instanceMethod yX0_greedyNext, Cond.selects RX0 yX0_greedyNext yX0_greedyNext, Cond.code yX0_greedyNext cX0_greedyNext 7 (some .int), Cond.static yX4_has, Cond.code yX4_has cX4_has 2 (some .boolean), Cond.methodLink RX4 82 yX4_only, Cond.methodLink RX0 47 yX1_explainedBy, Cond.instanceMethod yX1_explainedBy, Cond.selects RX1 yX1_explainedBy yX1_explainedBy, Cond.code yX1_explainedBy cX1_explainedBy 2 (some .int), Cond.fieldLink RX1 21 "Alarmgrove$Graph" "above" "[I", Cond.methodLink RX0 30 yJ6_bitCount_0f7a4, Cond.static yJ6_bitCount_0f7a4]
def wsX4_greedyCauses_r3 : List Cond := [Cond.initialized RJ6, Cond.code yJ6_bitCount_0f7a4 cJ6_bitCount_0f7a4 1 (some .int), Cond.constant RJ6 265 (1431655765), Cond.constant RJ6 266 (858993459), Cond.constant RJ6 267 (252645135)]
def wsX4_greedyCauses : List Cond := .code yX4_greedyCauses cX4_greedyCauses 1 (some .int) :: ((wsX4_greedyCauses_r1 ++ (wsX4_greedyCauses_r2 ++ wsX4_greedyCauses_r3)) ++ wsX00 ++ wsX40 ++ wsX10)
def wsX4_greedyCause_r1 : List Cond := [Cond.classLink RX4 166 "java/lang/IndexOutOfBoundsException", Cond.initialized "java/lang/IndexOutOfBoundsException", Cond.methodLink RX4 137 yX4_diagnoser, Cond.instanceMethod yX4_diagnoser, Cond.selects RX4 yX4_diagnoser yX4_diagnoser, Cond.initialized RX4, Cond.code yX4_diagnoser cX4_diagnoser 1 (some (.object "Alarmgrove$Diagnoser")), Cond.classLink RX4 142 RX0, Cond.instantiable RX0 3, Cond.initialized RX0, Cond.fieldLink RX4 10 "Alarmgrove" "graph" "LAlarmgrove$Graph;", Cond.fieldLink RX4 30 "Alarmgrove" "raised" "I", Cond.methodLink RX4 177 yX0_init, Cond.instanceMethod yX0_init, Cond.code yX0_init cX0_init 3 none, Cond.methodLink RX0 3 objectInit, Cond.instanceMethod objectInit, Cond.code objectInit ⟨#[0xb1]⟩ 1 none, Cond.fieldLink RX0 9 "Alarmgrove$Diagnoser" "graph" "LAlarmgrove$Graph;", Cond.fieldLink RX0 15 "Alarmgrove$Diagnoser" "raised" "I", Cond.fieldLink RX0 23 "Alarmgrove$Diagnoser" "plausible" "I", Cond.methodLink RX0 19 yX0_plausibleOf, Cond.static yX0_plausibleOf, Cond.code yX0_plausibleOf cX0_plausibleOf 5 (some .int)]
def wsX4_greedyCause_r2 : List Cond := [Cond.methodLink RX0 65 yX1_users, Cond.instanceMethod yX1_users, Cond.selects RX1 yX1_users yX1_users, Cond.initialized RX1, Cond.code yX1_users cX1_users 2 (some .int), Cond.fieldLink RX1 15 "Alarmgrove$Graph" "users" "[I", Cond.static yX4_only, Cond.code yX4_only cX4_only 1 (some .int), Cond.methodLink RX4 163 yX0_greedyAt, Cond.instanceMethod yX0_greedyAt, Cond.selects RX0 yX0_greedyAt yX0_greedyAt, Cond.code yX0_greedyAt cX0_greedyAt 5 (some .int), Cond.methodLink RX0 44 yX0_greedyNext, Cond.instanceMethod yX0_greedyNext, Cond.selects RX0 yX0_greedyNext yX0_greedyNext, Cond.code yX0_greedyNext cX0_greedyNext 7 (some .int), Cond.static yX4_has, Cond.code yX4_has cX4_has 2 (some .boolean), Cond.methodLink RX4 82 yX4_only, Cond.methodLink RX0 47 yX1_explainedBy, Cond.instanceMethod yX1_explainedBy, Cond.selects RX1 yX1_explainedBy yX1_explainedBy, Cond.code yX1_explainedBy cX1_explainedBy 2 (some .int), Cond.fieldLink RX1 21 "Alarmgrove$Graph" "above" "[I"]
def wsX4_greedyCause_r3 : List Cond := [Cond.methodLink RX0 30 yJ6_bitCount_0f7a4, Cond.static yJ6_bitCount_0f7a4, Cond.initialized RJ6, Cond.code yJ6_bitCount_0f7a4 cJ6_bitCount_0f7a4 1 (some .int), Cond.constant RJ6 265 (1431655765), Cond.constant RJ6 266 (858993459), Cond.constant RJ6 267 (252645135)]
def wsX4_greedyCause : List Cond := .code yX4_greedyCause cX4_greedyCause 3 (some .int) :: ((wsX4_greedyCause_r1 ++ (wsX4_greedyCause_r2 ++ wsX4_greedyCause_r3)) ++ wsX00 ++ wsX40 ++ wsX10 ++ (vx_atS RX4 170 "java/lang/IndexOutOfBoundsException" ["java/lang/RuntimeException", "java/lang/Exception"]).filter goodWord)
def wsX4_causeOf_r1 : List Cond := [Cond.fieldLink RX4 30 "Alarmgrove" "raised" "I", Cond.fieldLink RX4 10 "Alarmgrove" "graph" "LAlarmgrove$Graph;", Cond.methodLink RX4 37 yX4_checkNode, Cond.static yX4_checkNode, Cond.initialized RX4, Cond.code yX4_checkNode cX4_checkNode 1 none, Cond.classLink RX4 166 "java/lang/IndexOutOfBoundsException", Cond.initialized "java/lang/IndexOutOfBoundsException", Cond.methodLink RX4 45 yX4_has, Cond.static yX4_has, Cond.code yX4_has cX4_has 2 (some .boolean), Cond.methodLink RX4 82 yX4_only, Cond.static yX4_only, Cond.code yX4_only cX4_only 1 (some .int), Cond.methodLink RX4 137 yX4_diagnoser, Cond.instanceMethod yX4_diagnoser, Cond.selects RX4 yX4_diagnoser yX4_diagnoser, Cond.code yX4_diagnoser cX4_diagnoser 1 (some (.object "Alarmgrove$Diagnoser")), Cond.classLink RX4 142 RX0, Cond.instantiable RX0 3, Cond.initialized RX0, Cond.methodLink RX4 177 yX0_init, Cond.instanceMethod yX0_init, Cond.code yX0_init cX0_init 3 none]
def wsX4_causeOf_r2 : List Cond := [Cond.methodLink RX0 3 objectInit, Cond.instanceMethod objectInit, Cond.code objectInit ⟨#[0xb1]⟩ 1 none, Cond.fieldLink RX0 9 "Alarmgrove$Diagnoser" "graph" "LAlarmgrove$Graph;", Cond.fieldLink RX0 15 "Alarmgrove$Diagnoser" "raised" "I", Cond.fieldLink RX0 23 "Alarmgrove$Diagnoser" "plausible" "I", Cond.methodLink RX0 19 yX0_plausibleOf, Cond.static yX0_plausibleOf, Cond.code yX0_plausibleOf cX0_plausibleOf 5 (some .int), Cond.methodLink RX0 65 yX1_users, Cond.instanceMethod yX1_users, Cond.selects RX1 yX1_users yX1_users, Cond.initialized RX1, Cond.code yX1_users cX1_users 2 (some .int), Cond.fieldLink RX1 15 "Alarmgrove$Graph" "users" "[I", Cond.methodLink RX4 146 yX0_bestBySearch, Cond.instanceMethod yX0_bestBySearch, Cond.selects RX0 yX0_bestBySearch yX0_bestBySearch, Cond.code yX0_bestBySearch cX0_bestBySearch 1 (some .int), Cond.methodLink RX0 26 yX0_search, Cond.static yX0_search, Cond.code yX0_search cX0_search 13 (some .int), Cond.static yX4_nodeAtPlace, Cond.code yX4_nodeAtPlace cX4_nodeAtPlace 4 (some .int)]
def wsX4_causeOf_r3 : List Cond := [Cond.methodLink RX0 36 yX0_isBetter, Cond.instanceMethod yX0_isBetter, Cond.selects RX0 yX0_isBetter yX0_isBetter, Cond.code yX0_isBetter cX0_isBetter 8 (some .boolean), Cond.methodLink RX0 30 yJ6_bitCount_0f7a4, Cond.static yJ6_bitCount_0f7a4, Cond.initialized RJ6, Cond.code yJ6_bitCount_0f7a4 cJ6_bitCount_0f7a4 1 (some .int), Cond.constant RJ6 265 (1431655765), Cond.constant RJ6 266 (858993459), Cond.constant RJ6 267 (252645135), Cond.methodLink RX0 59 yX1_explainersOf, Cond.instanceMethod yX1_explainersOf, Cond.selects RX1 yX1_explainersOf yX1_explainersOf, Cond.code yX1_explainersOf cX1_explainersOf 2 (some .int), Cond.fieldLink RX1 18 "Alarmgrove$Graph" "below" "[I", Cond.methodLink RX0 47 yX1_explainedBy, Cond.instanceMethod yX1_explainedBy, Cond.selects RX1 yX1_explainedBy yX1_explainedBy, Cond.code yX1_explainedBy cX1_explainedBy 2 (some .int), Cond.fieldLink RX1 21 "Alarmgrove$Graph" "above" "[I", Cond.methodLink RX4 171 yX1_explainersOf, Cond.methodLink RX4 174 yX4_nodeAtPlace]
def wsX4_causeOf : List Cond := .code yX4_causeOf cX4_causeOf 2 (some .int) :: ((wsX4_causeOf_r1 ++ (wsX4_causeOf_r2 ++ wsX4_causeOf_r3)) ++ wsX40 ++ wsX00 ++ wsX10 ++ (vx_atS RX4 170 "java/lang/IndexOutOfBoundsException" ["java/lang/RuntimeException", "java/lang/Exception"]).filter goodWord)
def wsJ9_min_7cf53 : List Cond := .code yJ9_min_7cf53 cJ9_min_7cf53 2 (some .int) :: ([])
def wsL_cell : List Cond := .code yL_cell cL_cell 2 (some .int) :: ([.constant RL 7 (47777), .constant RL 8 (2147483647)])
def wsL_need_r1 : List Cond := [Cond.classLink RL 15 "java/lang/IndexOutOfBoundsException", Cond.classLink RL 17 "java/lang/IllegalArgumentException", Cond.methodLink RL 9 yX4_need, Cond.instanceMethod yX4_need, Cond.selects RX4 yX4_need yX4_need, Cond.initialized RX4, Cond.code yX4_need cX4_need 3 (some .boolean), Cond.classLink RX4 49 "java/lang/IllegalArgumentException", Cond.initialized "java/lang/IllegalArgumentException", Cond.fieldLink RX4 10 "Alarmgrove" "graph" "LAlarmgrove$Graph;", Cond.methodLink RX4 37 yX4_checkNode, Cond.static yX4_checkNode, Cond.code yX4_checkNode cX4_checkNode 1 none, Cond.classLink RX4 166 "java/lang/IndexOutOfBoundsException", Cond.initialized "java/lang/IndexOutOfBoundsException", Cond.methodLink RX4 41 yX1_below, Cond.instanceMethod yX1_below, Cond.selects RX1 yX1_below yX1_below, Cond.initialized RX1, Cond.code yX1_below cX1_below 2 (some .int), Cond.fieldLink RX1 18 "Alarmgrove$Graph" "below" "[I", Cond.methodLink RX4 45 yX4_has, Cond.static yX4_has, Cond.code yX4_has cX4_has 2 (some .boolean)]
def wsL_need_r2 : List Cond := [Cond.methodLink RX4 82 yX4_only, Cond.static yX4_only, Cond.code yX4_only cX4_only 1 (some .int), Cond.methodLink RX4 56 yX1_link, Cond.instanceMethod yX1_link, Cond.selects RX1 yX1_link yX1_link, Cond.code yX1_link cX1_link 3 (some .boolean), Cond.fieldLink RX1 9 "Alarmgrove$Graph" "needed" "[I", Cond.fieldLink RX1 15 "Alarmgrove$Graph" "users" "[I", Cond.methodLink RX1 32 yX1_followAll, Cond.instanceMethod yX1_followAll, Cond.selects RX1 yX1_followAll yX1_followAll, Cond.code yX1_followAll cX1_followAll 2 none, Cond.fieldLink RX1 21 "Alarmgrove$Graph" "above" "[I", Cond.methodLink RX1 39 yX1_follow, Cond.static yX1_follow, Cond.code yX1_follow cX1_follow 5 (some .int), Cond.methodLink RX1 35 yX1_step, Cond.static yX1_step, Cond.code yX1_step cX1_step 4 (some .int)]
def wsL_need : List Cond := .codeWith yL_need cL_need 4 (some .int) [(0, 14, 15, 15), (0, 14, 19, 17)] :: ((wsL_need_r1 ++ wsL_need_r2) ++ wsX40 ++ wsX10 ++ (vx_atS RX4 53 "java/lang/IllegalArgumentException" ["java/lang/RuntimeException", "java/lang/Exception"]).filter goodWord ++ (vx_atS RX4 170 "java/lang/IndexOutOfBoundsException" ["java/lang/RuntimeException", "java/lang/Exception"]).filter goodWord)
def wsL_release_r1 : List Cond := [Cond.classLink RL 15 "java/lang/IndexOutOfBoundsException", Cond.methodLink RL 19 yX4_release, Cond.instanceMethod yX4_release, Cond.selects RX4 yX4_release yX4_release, Cond.initialized RX4, Cond.code yX4_release cX4_release 3 (some .boolean), Cond.fieldLink RX4 10 "Alarmgrove" "graph" "LAlarmgrove$Graph;", Cond.methodLink RX4 37 yX4_checkNode, Cond.static yX4_checkNode, Cond.code yX4_checkNode cX4_checkNode 1 none, Cond.classLink RX4 166 "java/lang/IndexOutOfBoundsException", Cond.initialized "java/lang/IndexOutOfBoundsException", Cond.methodLink RX4 59 yX1_unlink, Cond.instanceMethod yX1_unlink, Cond.selects RX1 yX1_unlink yX1_unlink, Cond.initialized RX1, Cond.code yX1_unlink cX1_unlink 3 (some .boolean), Cond.fieldLink RX1 9 "Alarmgrove$Graph" "needed" "[I", Cond.fieldLink RX1 15 "Alarmgrove$Graph" "users" "[I", Cond.static yX4_has, Cond.code yX4_has cX4_has 2 (some .boolean), Cond.methodLink RX4 82 yX4_only, Cond.static yX4_only, Cond.code yX4_only cX4_only 1 (some .int)]
def wsL_release_r2 : List Cond := [Cond.methodLink RX1 32 yX1_followAll, Cond.instanceMethod yX1_followAll, Cond.selects RX1 yX1_followAll yX1_followAll, Cond.code yX1_followAll cX1_followAll 2 none, Cond.fieldLink RX1 18 "Alarmgrove$Graph" "below" "[I", Cond.fieldLink RX1 21 "Alarmgrove$Graph" "above" "[I", Cond.methodLink RX1 39 yX1_follow, Cond.static yX1_follow, Cond.code yX1_follow cX1_follow 5 (some .int), Cond.methodLink RX1 35 yX1_step, Cond.static yX1_step, Cond.code yX1_step cX1_step 4 (some .int)]
def wsL_release : List Cond := .codeWith yL_release cL_release 4 (some .int) [(0, 14, 15, 15)] :: ((wsL_release_r1 ++ wsL_release_r2) ++ wsX40 ++ wsX10 ++ (vx_atS RX4 170 "java/lang/IndexOutOfBoundsException" ["java/lang/RuntimeException", "java/lang/Exception"]).filter goodWord)
def wsL_needs : List Cond := .codeWith yL_needs cL_needs 4 (some .int) [(0, 14, 15, 15)] :: ([.classLink RL 15 "java/lang/IndexOutOfBoundsException", .methodLink RL 22 yX4_needs, .instanceMethod yX4_needs, .selects RX4 yX4_needs yX4_needs, .initialized RX4, .code yX4_needs cX4_needs 3 (some .boolean), .fieldLink RX4 10 "Alarmgrove" "graph" "LAlarmgrove$Graph;", .methodLink RX4 37 yX4_checkNode, .static yX4_checkNode, .code yX4_checkNode cX4_checkNode 1 none, .classLink RX4 166 "java/lang/IndexOutOfBoundsException", .initialized "java/lang/IndexOutOfBoundsException", .methodLink RX4 62 yX1_needed, .instanceMethod yX1_needed, .selects RX1 yX1_needed yX1_needed, .initialized RX1, .code yX1_needed cX1_needed 2 (some .int), .fieldLink RX1 9 "Alarmgrove$Graph" "needed" "[I", .methodLink RX4 45 yX4_has, .static yX4_has, .code yX4_has cX4_has 2 (some .boolean), .methodLink RX4 82 yX4_only, .static yX4_only, .code yX4_only cX4_only 1 (some .int)] ++ wsX40 ++ wsX10 ++ (vx_atS RX4 170 "java/lang/IndexOutOfBoundsException" ["java/lang/RuntimeException", "java/lang/Exception"]).filter goodWord)
def wsL_depends : List Cond := .codeWith yL_depends cL_depends 4 (some .int) [(0, 14, 15, 15)] :: ([.classLink RL 15 "java/lang/IndexOutOfBoundsException", .methodLink RL 25 yX4_dependsOn, .instanceMethod yX4_dependsOn, .selects RX4 yX4_dependsOn yX4_dependsOn, .initialized RX4, .code yX4_dependsOn cX4_dependsOn 3 (some .boolean), .fieldLink RX4 10 "Alarmgrove" "graph" "LAlarmgrove$Graph;", .methodLink RX4 37 yX4_checkNode, .static yX4_checkNode, .code yX4_checkNode cX4_checkNode 1 none, .classLink RX4 166 "java/lang/IndexOutOfBoundsException", .initialized "java/lang/IndexOutOfBoundsException", .methodLink RX4 41 yX1_below, .instanceMethod yX1_below, .selects RX1 yX1_below yX1_below, .initialized RX1, .code yX1_below cX1_below 2 (some .int), .fieldLink RX1 18 "Alarmgrove$Graph" "below" "[I", .methodLink RX4 45 yX4_has, .static yX4_has, .code yX4_has cX4_has 2 (some .boolean), .methodLink RX4 82 yX4_only, .static yX4_only, .code yX4_only cX4_only 1 (some .int)] ++ wsX40 ++ wsX10 ++ (vx_atS RX4 170 "java/lang/IndexOutOfBoundsException" ["java/lang/RuntimeException", "java/lang/Exception"]).filter goodWord)
def wsL_height_r1 : List Cond := [Cond.classLink RL 15 "java/lang/IndexOutOfBoundsException", Cond.methodLink RL 28 yX4_height, Cond.instanceMethod yX4_height, Cond.selects RX4 yX4_height yX4_height, Cond.initialized RX4, Cond.code yX4_height cX4_height 2 (some .int), Cond.fieldLink RX4 10 "Alarmgrove" "graph" "LAlarmgrove$Graph;", Cond.methodLink RX4 37 yX4_checkNode, Cond.static yX4_checkNode, Cond.code yX4_checkNode cX4_checkNode 1 none, Cond.classLink RX4 166 "java/lang/IndexOutOfBoundsException", Cond.initialized "java/lang/IndexOutOfBoundsException", Cond.methodLink RX4 65 yX1_longestWayDown, Cond.instanceMethod yX1_longestWayDown, Cond.selects RX1 yX1_longestWayDown yX1_longestWayDown, Cond.initialized RX1, Cond.code yX1_longestWayDown cX1_longestWayDown 4 (some .int), Cond.fieldLink RX1 9 "Alarmgrove$Graph" "needed" "[I", Cond.static yX4_only, Cond.code yX4_only cX4_only 1 (some .int), Cond.methodLink RX1 35 yX1_step, Cond.static yX1_step, Cond.code yX1_step cX1_step 4 (some .int), Cond.static yX4_has]
def wsL_height_r2 : List Cond := [Cond.code yX4_has cX4_has 2 (some .boolean), Cond.methodLink RX4 82 yX4_only]
def wsL_height : List Cond := .codeWith yL_height cL_height 3 (some .int) [(0, 5, 6, 15)] :: ((wsL_height_r1 ++ wsL_height_r2) ++ wsX40 ++ wsX10 ++ (vx_atS RX4 170 "java/lang/IndexOutOfBoundsException" ["java/lang/RuntimeException", "java/lang/Exception"]).filter goodWord)
def wsL_tick : List Cond := .codeWith yL_tick cL_tick 3 (some .int) [(0, 5, 6, 17)] :: ([.classLink RL 17 "java/lang/IllegalArgumentException", .methodLink RL 32 yX4_tick, .instanceMethod yX4_tick, .selects RX4 yX4_tick yX4_tick, .initialized RX4, .code yX4_tick cX4_tick 2 (some .int), .fieldLink RX4 34 "Alarmgrove" "time" "I", .methodLink RX4 68 yX4_checkTicks, .static yX4_checkTicks, .code yX4_checkTicks cX4_checkTicks 2 none, .classLink RX4 49 "java/lang/IllegalArgumentException", .initialized "java/lang/IllegalArgumentException"] ++ wsX40 ++ (vx_atS RX4 53 "java/lang/IllegalArgumentException" ["java/lang/RuntimeException", "java/lang/Exception"]).filter goodWord)
def wsL_raise_r1 : List Cond := [Cond.classLink RL 15 "java/lang/IndexOutOfBoundsException", Cond.classLink RL 38 "java/lang/IllegalStateException", Cond.methodLink RL 35 yX4_raise, Cond.instanceMethod yX4_raise, Cond.selects RX4 yX4_raise yX4_raise, Cond.initialized RX4, Cond.code yX4_raise cX4_raise 3 (some .int), Cond.fieldLink RX4 30 "Alarmgrove" "raised" "I", Cond.fieldLink RX4 19 "Alarmgrove" "log" "LAlarmgrove$Log;", Cond.fieldLink RX4 34 "Alarmgrove" "time" "I", Cond.fieldLink RX4 10 "Alarmgrove" "graph" "LAlarmgrove$Graph;", Cond.fieldLink RX4 26 "Alarmgrove" "tickets" "LAlarmgrove$Tickets;", Cond.methodLink RX4 37 yX4_checkNode, Cond.static yX4_checkNode, Cond.code yX4_checkNode cX4_checkNode 1 none, Cond.classLink RX4 166 "java/lang/IndexOutOfBoundsException", Cond.initialized "java/lang/IndexOutOfBoundsException", Cond.methodLink RX4 45 yX4_has, Cond.static yX4_has, Cond.code yX4_has cX4_has 2 (some .boolean), Cond.methodLink RX4 82 yX4_only, Cond.static yX4_only, Cond.code yX4_only cX4_only 1 (some .int), Cond.methodLink RX4 72 yX4_checkChange]
def wsL_raise_r2 : List Cond := [Cond.instanceMethod yX4_checkChange, Cond.selects RX4 yX4_checkChange yX4_checkChange, Cond.code yX4_checkChange cX4_checkChange 2 none, Cond.classLink RX4 188 "java/lang/IllegalStateException", Cond.initialized "java/lang/IllegalStateException", Cond.methodLink RX4 184 yX2_isFull, Cond.instanceMethod yX2_isFull, Cond.selects RX2 yX2_isFull yX2_isFull, Cond.initialized RX2, Cond.code yX2_isFull cX2_isFull 1 (some .boolean), Cond.fieldLink RX2 27 "Alarmgrove$Log" "count" "I", Cond.methodLink RX4 76 yX2_addRaise, Cond.instanceMethod yX2_addRaise, Cond.selects RX2 yX2_addRaise yX2_addRaise, Cond.code yX2_addRaise cX2_addRaise 3 none, Cond.fieldLink RX2 24 "Alarmgrove$Log" "raisedAt" "[I", Cond.methodLink RX2 31 yX2_add, Cond.instanceMethod yX2_add, Cond.selects RX2 yX2_add yX2_add, Cond.code yX2_add cX2_add 5 none, Cond.fieldLink RX2 9 "Alarmgrove$Log" "kinds" "[I", Cond.fieldLink RX2 15 "Alarmgrove$Log" "nodes" "[I", Cond.fieldLink RX2 18 "Alarmgrove$Log" "times" "[I", Cond.fieldLink RX2 21 "Alarmgrove$Log" "lengths" "[I"]
def wsL_raise_r3 : List Cond := [Cond.methodLink RX4 41 yX1_below, Cond.instanceMethod yX1_below, Cond.selects RX1 yX1_below yX1_below, Cond.initialized RX1, Cond.code yX1_below cX1_below 2 (some .int), Cond.fieldLink RX1 18 "Alarmgrove$Graph" "below" "[I", Cond.methodLink RX4 79 yX1_above, Cond.instanceMethod yX1_above, Cond.selects RX1 yX1_above yX1_above, Cond.code yX1_above cX1_above 2 (some .int), Cond.fieldLink RX1 21 "Alarmgrove$Graph" "above" "[I", Cond.methodLink RX4 85 yX3_join, Cond.instanceMethod yX3_join, Cond.selects RX3 yX3_join yX3_join, Cond.initialized RX3, Cond.code yX3_join cX3_join 3 (some .int), Cond.fieldLink RX3 18 "Alarmgrove$Tickets" "newest" "I", Cond.fieldLink RX3 9 "Alarmgrove$Tickets" "numbers" "[I", Cond.methodLink RX3 33 yX3_unite, Cond.instanceMethod yX3_unite, Cond.selects RX3 yX3_unite yX3_unite, Cond.code yX3_unite cX3_unite 4 (some .int), Cond.methodLink RX3 40 Lib.Math.min.name, Cond.static Lib.Math.min.name]
def wsL_raise_r4 : List Cond := [Cond.initialized "java/lang/Math", Cond.code Lib.Math.min.name Lib.Math.min.code 2 (some .int), Cond.methodLink RX3 46 yX3_merge, Cond.instanceMethod yX3_merge, Cond.selects RX3 yX3_merge yX3_merge, Cond.code yX3_merge cX3_merge 4 none, Cond.fieldLink RX3 15 "Alarmgrove$Tickets" "targets" "[I", Cond.methodLink RX3 22 yX3_isUsed, Cond.instanceMethod yX3_isUsed, Cond.selects RX3 yX3_isUsed yX3_isUsed, Cond.code yX3_isUsed cX3_isUsed 2 (some .boolean)]
def wsL_raise : List Cond := .codeWith yL_raise cL_raise 3 (some .int) [(0, 5, 6, 15), (0, 5, 10, 38)] :: ((wsL_raise_r1 ++ (wsL_raise_r2 ++ (wsL_raise_r3 ++ wsL_raise_r4))) ++ wsX40 ++ wsX20 ++ wsX10 ++ wsX30 ++ (vx_atS RX4 170 "java/lang/IndexOutOfBoundsException" ["java/lang/RuntimeException", "java/lang/Exception"]).filter goodWord ++ (vx_atS RX4 192 "java/lang/IllegalStateException" ["java/lang/RuntimeException", "java/lang/Exception"]).filter goodWord)
def wsL_clear_r1 : List Cond := [Cond.classLink RL 15 "java/lang/IndexOutOfBoundsException", Cond.classLink RL 38 "java/lang/IllegalStateException", Cond.methodLink RL 40 yX4_clear, Cond.instanceMethod yX4_clear, Cond.selects RX4 yX4_clear yX4_clear, Cond.initialized RX4, Cond.code yX4_clear cX4_clear 2 (some .int), Cond.fieldLink RX4 30 "Alarmgrove" "raised" "I", Cond.fieldLink RX4 19 "Alarmgrove" "log" "LAlarmgrove$Log;", Cond.fieldLink RX4 34 "Alarmgrove" "time" "I", Cond.fieldLink RX4 26 "Alarmgrove" "tickets" "LAlarmgrove$Tickets;", Cond.methodLink RX4 37 yX4_checkNode, Cond.static yX4_checkNode, Cond.code yX4_checkNode cX4_checkNode 1 none, Cond.classLink RX4 166 "java/lang/IndexOutOfBoundsException", Cond.initialized "java/lang/IndexOutOfBoundsException", Cond.methodLink RX4 45 yX4_has, Cond.static yX4_has, Cond.code yX4_has cX4_has 2 (some .boolean), Cond.methodLink RX4 82 yX4_only, Cond.static yX4_only, Cond.code yX4_only cX4_only 1 (some .int), Cond.methodLink RX4 72 yX4_checkChange, Cond.instanceMethod yX4_checkChange]
def wsL_clear_r2 : List Cond := [Cond.selects RX4 yX4_checkChange yX4_checkChange, Cond.code yX4_checkChange cX4_checkChange 2 none, Cond.classLink RX4 188 "java/lang/IllegalStateException", Cond.initialized "java/lang/IllegalStateException", Cond.methodLink RX4 184 yX2_isFull, Cond.instanceMethod yX2_isFull, Cond.selects RX2 yX2_isFull yX2_isFull, Cond.initialized RX2, Cond.code yX2_isFull cX2_isFull 1 (some .boolean), Cond.fieldLink RX2 27 "Alarmgrove$Log" "count" "I", Cond.methodLink RX4 89 yX2_addClear, Cond.instanceMethod yX2_addClear, Cond.selects RX2 yX2_addClear yX2_addClear, Cond.code yX2_addClear cX2_addClear 3 none, Cond.fieldLink RX2 24 "Alarmgrove$Log" "raisedAt" "[I", Cond.methodLink RX2 31 yX2_add, Cond.instanceMethod yX2_add, Cond.selects RX2 yX2_add yX2_add, Cond.code yX2_add cX2_add 5 none, Cond.fieldLink RX2 9 "Alarmgrove$Log" "kinds" "[I", Cond.fieldLink RX2 15 "Alarmgrove$Log" "nodes" "[I", Cond.fieldLink RX2 18 "Alarmgrove$Log" "times" "[I", Cond.fieldLink RX2 21 "Alarmgrove$Log" "lengths" "[I", Cond.methodLink RX4 92 yX3_leave]
def wsL_clear_r3 : List Cond := [Cond.instanceMethod yX3_leave, Cond.selects RX3 yX3_leave yX3_leave, Cond.initialized RX3, Cond.code yX3_leave cX3_leave 3 (some .int), Cond.fieldLink RX3 9 "Alarmgrove$Tickets" "numbers" "[I", Cond.methodLink RX3 26 yX3_sizeOf, Cond.instanceMethod yX3_sizeOf, Cond.selects RX3 yX3_sizeOf yX3_sizeOf, Cond.code yX3_sizeOf cX3_sizeOf 4 (some .int), Cond.methodLink RX3 22 yX3_isUsed, Cond.instanceMethod yX3_isUsed, Cond.selects RX3 yX3_isUsed yX3_isUsed, Cond.code yX3_isUsed cX3_isUsed 2 (some .boolean), Cond.fieldLink RX3 18 "Alarmgrove$Tickets" "newest" "I", Cond.fieldLink RX3 15 "Alarmgrove$Tickets" "targets" "[I"]
def wsL_clear : List Cond := .codeWith yL_clear cL_clear 3 (some .int) [(0, 5, 6, 15), (0, 5, 10, 38)] :: ((wsL_clear_r1 ++ (wsL_clear_r2 ++ wsL_clear_r3)) ++ wsX40 ++ wsX20 ++ wsX30 ++ (vx_atS RX4 170 "java/lang/IndexOutOfBoundsException" ["java/lang/RuntimeException", "java/lang/Exception"]).filter goodWord ++ (vx_atS RX4 192 "java/lang/IllegalStateException" ["java/lang/RuntimeException", "java/lang/Exception"]).filter goodWord)
def wsL_ticket : List Cond := .codeWith yL_ticket cL_ticket 3 (some .int) [(0, 5, 6, 15)] :: ([.classLink RL 15 "java/lang/IndexOutOfBoundsException", .methodLink RL 43 yX4_ticketOf, .instanceMethod yX4_ticketOf, .selects RX4 yX4_ticketOf yX4_ticketOf, .initialized RX4, .code yX4_ticketOf cX4_ticketOf 2 (some .int), .fieldLink RX4 26 "Alarmgrove" "tickets" "LAlarmgrove$Tickets;", .methodLink RX4 37 yX4_checkNode, .static yX4_checkNode, .code yX4_checkNode cX4_checkNode 1 none, .classLink RX4 166 "java/lang/IndexOutOfBoundsException", .initialized "java/lang/IndexOutOfBoundsException", .methodLink RX4 125 yX3_numberOf, .instanceMethod yX3_numberOf, .selects RX3 yX3_numberOf yX3_numberOf, .initialized RX3, .code yX3_numberOf cX3_numberOf 2 (some .int), .fieldLink RX3 9 "Alarmgrove$Tickets" "numbers" "[I"] ++ wsX40 ++ wsX30 ++ (vx_atS RX4 170 "java/lang/IndexOutOfBoundsException" ["java/lang/RuntimeException", "java/lang/Exception"]).filter goodWord)
def wsL_plausible_r1 : List Cond := [Cond.classLink RL 15 "java/lang/IndexOutOfBoundsException", Cond.methodLink RL 46 yX4_isPlausible, Cond.instanceMethod yX4_isPlausible, Cond.selects RX4 yX4_isPlausible yX4_isPlausible, Cond.initialized RX4, Cond.code yX4_isPlausible cX4_isPlausible 2 (some .boolean), Cond.methodLink RX4 37 yX4_checkNode, Cond.static yX4_checkNode, Cond.code yX4_checkNode cX4_checkNode 1 none, Cond.classLink RX4 166 "java/lang/IndexOutOfBoundsException", Cond.initialized "java/lang/IndexOutOfBoundsException", Cond.methodLink RX4 137 yX4_diagnoser, Cond.instanceMethod yX4_diagnoser, Cond.selects RX4 yX4_diagnoser yX4_diagnoser, Cond.code yX4_diagnoser cX4_diagnoser 1 (some (.object "Alarmgrove$Diagnoser")), Cond.classLink RX4 142 RX0, Cond.instantiable RX0 3, Cond.initialized RX0, Cond.fieldLink RX4 10 "Alarmgrove" "graph" "LAlarmgrove$Graph;", Cond.fieldLink RX4 30 "Alarmgrove" "raised" "I", Cond.methodLink RX4 177 yX0_init, Cond.instanceMethod yX0_init, Cond.code yX0_init cX0_init 3 none, Cond.methodLink RX0 3 objectInit]
def wsL_plausible_r2 : List Cond := [Cond.instanceMethod objectInit, Cond.code objectInit ⟨#[0xb1]⟩ 1 none, Cond.fieldLink RX0 9 "Alarmgrove$Diagnoser" "graph" "LAlarmgrove$Graph;", Cond.fieldLink RX0 15 "Alarmgrove$Diagnoser" "raised" "I", Cond.fieldLink RX0 23 "Alarmgrove$Diagnoser" "plausible" "I", Cond.methodLink RX0 19 yX0_plausibleOf, Cond.static yX0_plausibleOf, Cond.code yX0_plausibleOf cX0_plausibleOf 5 (some .int), Cond.methodLink RX0 65 yX1_users, Cond.instanceMethod yX1_users, Cond.selects RX1 yX1_users yX1_users, Cond.initialized RX1, Cond.code yX1_users cX1_users 2 (some .int), Cond.fieldLink RX1 15 "Alarmgrove$Graph" "users" "[I", Cond.static yX4_only, Cond.code yX4_only cX4_only 1 (some .int), Cond.methodLink RX4 141 yX0_plausibleNodes, Cond.instanceMethod yX0_plausibleNodes, Cond.selects RX0 yX0_plausibleNodes yX0_plausibleNodes, Cond.code yX0_plausibleNodes cX0_plausibleNodes 1 (some .int), Cond.methodLink RX4 45 yX4_has, Cond.static yX4_has, Cond.code yX4_has cX4_has 2 (some .boolean), Cond.methodLink RX4 82 yX4_only]
def wsL_plausible : List Cond := .codeWith yL_plausible cL_plausible 3 (some .int) [(0, 13, 14, 15)] :: ((wsL_plausible_r1 ++ wsL_plausible_r2) ++ wsX00 ++ wsX40 ++ wsX10 ++ (vx_atS RX4 170 "java/lang/IndexOutOfBoundsException" ["java/lang/RuntimeException", "java/lang/Exception"]).filter goodWord)
def wsL_cause_r1 : List Cond := [Cond.classLink RL 15 "java/lang/IndexOutOfBoundsException", Cond.methodLink RL 50 yX4_cause, Cond.instanceMethod yX4_cause, Cond.selects RX4 yX4_cause yX4_cause, Cond.initialized RX4, Cond.code yX4_cause cX4_cause 2 (some .int), Cond.methodLink RX4 137 yX4_diagnoser, Cond.instanceMethod yX4_diagnoser, Cond.selects RX4 yX4_diagnoser yX4_diagnoser, Cond.code yX4_diagnoser cX4_diagnoser 1 (some (.object "Alarmgrove$Diagnoser")), Cond.classLink RX4 142 RX0, Cond.instantiable RX0 3, Cond.initialized RX0, Cond.fieldLink RX4 10 "Alarmgrove" "graph" "LAlarmgrove$Graph;", Cond.fieldLink RX4 30 "Alarmgrove" "raised" "I", Cond.methodLink RX4 177 yX0_init, Cond.instanceMethod yX0_init, Cond.code yX0_init cX0_init 3 none, Cond.methodLink RX0 3 objectInit, Cond.instanceMethod objectInit, Cond.code objectInit ⟨#[0xb1]⟩ 1 none, Cond.fieldLink RX0 9 "Alarmgrove$Diagnoser" "graph" "LAlarmgrove$Graph;", Cond.fieldLink RX0 15 "Alarmgrove$Diagnoser" "raised" "I", Cond.fieldLink RX0 23 "Alarmgrove$Diagnoser" "plausible" "I"]
def wsL_cause_r2 : List Cond := [Cond.methodLink RX0 19 yX0_plausibleOf, Cond.static yX0_plausibleOf, Cond.code yX0_plausibleOf cX0_plausibleOf 5 (some .int), Cond.methodLink RX0 65 yX1_users, Cond.instanceMethod yX1_users, Cond.selects RX1 yX1_users yX1_users, Cond.initialized RX1, Cond.code yX1_users cX1_users 2 (some .int), Cond.fieldLink RX1 15 "Alarmgrove$Graph" "users" "[I", Cond.static yX4_only, Cond.code yX4_only cX4_only 1 (some .int), Cond.methodLink RX4 146 yX0_bestBySearch, Cond.instanceMethod yX0_bestBySearch, Cond.selects RX0 yX0_bestBySearch yX0_bestBySearch, Cond.code yX0_bestBySearch cX0_bestBySearch 1 (some .int), Cond.methodLink RX0 26 yX0_search, Cond.static yX0_search, Cond.code yX0_search cX0_search 13 (some .int), Cond.static yX4_nodeAtPlace, Cond.code yX4_nodeAtPlace cX4_nodeAtPlace 4 (some .int), Cond.methodLink RX4 45 yX4_has, Cond.static yX4_has, Cond.code yX4_has cX4_has 2 (some .boolean), Cond.methodLink RX4 82 yX4_only]
def wsL_cause_r3 : List Cond := [Cond.methodLink RX0 36 yX0_isBetter, Cond.instanceMethod yX0_isBetter, Cond.selects RX0 yX0_isBetter yX0_isBetter, Cond.code yX0_isBetter cX0_isBetter 8 (some .boolean), Cond.methodLink RX0 30 yJ6_bitCount_0f7a4, Cond.static yJ6_bitCount_0f7a4, Cond.initialized RJ6, Cond.code yJ6_bitCount_0f7a4 cJ6_bitCount_0f7a4 1 (some .int), Cond.constant RJ6 265 (1431655765), Cond.constant RJ6 266 (858993459), Cond.constant RJ6 267 (252645135), Cond.methodLink RX0 59 yX1_explainersOf, Cond.instanceMethod yX1_explainersOf, Cond.selects RX1 yX1_explainersOf yX1_explainersOf, Cond.code yX1_explainersOf cX1_explainersOf 2 (some .int), Cond.fieldLink RX1 18 "Alarmgrove$Graph" "below" "[I", Cond.methodLink RX0 47 yX1_explainedBy, Cond.instanceMethod yX1_explainedBy, Cond.selects RX1 yX1_explainedBy yX1_explainedBy, Cond.code yX1_explainedBy cX1_explainedBy 2 (some .int), Cond.fieldLink RX1 21 "Alarmgrove$Graph" "above" "[I", Cond.methodLink RX4 154 yX4_nodeThere, Cond.static yX4_nodeThere, Cond.code yX4_nodeThere cX4_nodeThere 3 (some .int)]
def wsL_cause_r4 : List Cond := [Cond.classLink RX4 166 "java/lang/IndexOutOfBoundsException", Cond.initialized "java/lang/IndexOutOfBoundsException", Cond.methodLink RX4 174 yX4_nodeAtPlace]
def wsL_cause : List Cond := .codeWith yL_cause cL_cause 3 (some .int) [(0, 5, 6, 15)] :: ((wsL_cause_r1 ++ (wsL_cause_r2 ++ (wsL_cause_r3 ++ wsL_cause_r4))) ++ wsX00 ++ wsX40 ++ wsX10 ++ (vx_atS RX4 170 "java/lang/IndexOutOfBoundsException" ["java/lang/RuntimeException", "java/lang/Exception"]).filter goodWord)
def wsL_tried_r1 : List Cond := [Cond.classLink RL 15 "java/lang/IndexOutOfBoundsException", Cond.methodLink RL 53 yX4_causeByTrying, Cond.instanceMethod yX4_causeByTrying, Cond.selects RX4 yX4_causeByTrying yX4_causeByTrying, Cond.initialized RX4, Cond.code yX4_causeByTrying cX4_causeByTrying 2 (some .int), Cond.methodLink RX4 137 yX4_diagnoser, Cond.instanceMethod yX4_diagnoser, Cond.selects RX4 yX4_diagnoser yX4_diagnoser, Cond.code yX4_diagnoser cX4_diagnoser 1 (some (.object "Alarmgrove$Diagnoser")), Cond.classLink RX4 142 RX0, Cond.instantiable RX0 3, Cond.initialized RX0, Cond.fieldLink RX4 10 "Alarmgrove" "graph" "LAlarmgrove$Graph;", Cond.fieldLink RX4 30 "Alarmgrove" "raised" "I", Cond.methodLink RX4 177 yX0_init, Cond.instanceMethod yX0_init, Cond.code yX0_init cX0_init 3 none, Cond.methodLink RX0 3 objectInit, Cond.instanceMethod objectInit, Cond.code objectInit ⟨#[0xb1]⟩ 1 none, Cond.fieldLink RX0 9 "Alarmgrove$Diagnoser" "graph" "LAlarmgrove$Graph;", Cond.fieldLink RX0 15 "Alarmgrove$Diagnoser" "raised" "I", Cond.fieldLink RX0 23 "Alarmgrove$Diagnoser" "plausible" "I"]
def wsL_tried_r2 : List Cond := [Cond.methodLink RX0 19 yX0_plausibleOf, Cond.static yX0_plausibleOf, Cond.code yX0_plausibleOf cX0_plausibleOf 5 (some .int), Cond.methodLink RX0 65 yX1_users, Cond.instanceMethod yX1_users, Cond.selects RX1 yX1_users yX1_users, Cond.initialized RX1, Cond.code yX1_users cX1_users 2 (some .int), Cond.fieldLink RX1 15 "Alarmgrove$Graph" "users" "[I", Cond.static yX4_only, Cond.code yX4_only cX4_only 1 (some .int), Cond.methodLink RX4 157 yX0_bestByTrying, Cond.instanceMethod yX0_bestByTrying, Cond.selects RX0 yX0_bestByTrying yX0_bestByTrying, Cond.code yX0_bestByTrying cX0_bestByTrying 5 (some .int), Cond.methodLink RX0 30 yJ6_bitCount_0f7a4, Cond.static yJ6_bitCount_0f7a4, Cond.initialized RJ6, Cond.code yJ6_bitCount_0f7a4 cJ6_bitCount_0f7a4 1 (some .int), Cond.constant RJ6 265 (1431655765), Cond.constant RJ6 266 (858993459), Cond.constant RJ6 267 (252645135), Cond.methodLink RX0 36 yX0_isBetter, Cond.instanceMethod yX0_isBetter]
def wsL_tried_r3 : List Cond := [Cond.selects RX0 yX0_isBetter yX0_isBetter, Cond.code yX0_isBetter cX0_isBetter 8 (some .boolean), Cond.static yX4_nodeAtPlace, Cond.code yX4_nodeAtPlace cX4_nodeAtPlace 4 (some .int), Cond.methodLink RX4 45 yX4_has, Cond.static yX4_has, Cond.code yX4_has cX4_has 2 (some .boolean), Cond.methodLink RX4 82 yX4_only, Cond.methodLink RX0 40 yX0_explainsAll, Cond.instanceMethod yX0_explainsAll, Cond.selects RX0 yX0_explainsAll yX0_explainsAll, Cond.code yX0_explainsAll cX0_explainsAll 3 (some .boolean), Cond.methodLink RX0 59 yX1_explainersOf, Cond.instanceMethod yX1_explainersOf, Cond.selects RX1 yX1_explainersOf yX1_explainersOf, Cond.code yX1_explainersOf cX1_explainersOf 2 (some .int), Cond.fieldLink RX1 18 "Alarmgrove$Graph" "below" "[I", Cond.methodLink RX4 154 yX4_nodeThere, Cond.static yX4_nodeThere, Cond.code yX4_nodeThere cX4_nodeThere 3 (some .int), Cond.classLink RX4 166 "java/lang/IndexOutOfBoundsException", Cond.initialized "java/lang/IndexOutOfBoundsException", Cond.methodLink RX4 174 yX4_nodeAtPlace]
def wsL_tried : List Cond := .codeWith yL_tried cL_tried 3 (some .int) [(0, 5, 6, 15)] :: ((wsL_tried_r1 ++ (wsL_tried_r2 ++ wsL_tried_r3)) ++ wsX00 ++ wsX40 ++ wsX10 ++ (vx_atS RX4 170 "java/lang/IndexOutOfBoundsException" ["java/lang/RuntimeException", "java/lang/Exception"]).filter goodWord)
def wsL_greedy_r1 : List Cond := [Cond.classLink RL 15 "java/lang/IndexOutOfBoundsException", Cond.methodLink RL 56 yX4_greedyCause, Cond.instanceMethod yX4_greedyCause, Cond.selects RX4 yX4_greedyCause yX4_greedyCause, Cond.initialized RX4, Cond.code yX4_greedyCause cX4_greedyCause 3 (some .int), Cond.classLink RX4 166 "java/lang/IndexOutOfBoundsException", Cond.initialized "java/lang/IndexOutOfBoundsException", Cond.methodLink RX4 137 yX4_diagnoser, Cond.instanceMethod yX4_diagnoser, Cond.selects RX4 yX4_diagnoser yX4_diagnoser, Cond.code yX4_diagnoser cX4_diagnoser 1 (some (.object "Alarmgrove$Diagnoser")), Cond.classLink RX4 142 RX0, Cond.instantiable RX0 3, Cond.initialized RX0, Cond.fieldLink RX4 10 "Alarmgrove" "graph" "LAlarmgrove$Graph;", Cond.fieldLink RX4 30 "Alarmgrove" "raised" "I", Cond.methodLink RX4 177 yX0_init, Cond.instanceMethod yX0_init, Cond.code yX0_init cX0_init 3 none, Cond.methodLink RX0 3 objectInit, Cond.instanceMethod objectInit, Cond.code objectInit ⟨#[0xb1]⟩ 1 none, Cond.fieldLink RX0 9 "Alarmgrove$Diagnoser" "graph" "LAlarmgrove$Graph;"]
def wsL_greedy_r2 : List Cond := [Cond.fieldLink RX0 15 "Alarmgrove$Diagnoser" "raised" "I", Cond.fieldLink RX0 23 "Alarmgrove$Diagnoser" "plausible" "I", Cond.methodLink RX0 19 yX0_plausibleOf, Cond.static yX0_plausibleOf, Cond.code yX0_plausibleOf cX0_plausibleOf 5 (some .int), Cond.methodLink RX0 65 yX1_users, Cond.instanceMethod yX1_users, Cond.selects RX1 yX1_users yX1_users, Cond.initialized RX1, Cond.code yX1_users cX1_users 2 (some .int), Cond.fieldLink RX1 15 "Alarmgrove$Graph" "users" "[I", Cond.static yX4_only, Cond.code yX4_only cX4_only 1 (some .int), Cond.methodLink RX4 163 yX0_greedyAt, Cond.instanceMethod yX0_greedyAt, Cond.selects RX0 yX0_greedyAt yX0_greedyAt, Cond.code yX0_greedyAt cX0_greedyAt 5 (some .int), Cond.methodLink RX0 44 yX0_greedyNext, Cond.instanceMethod yX0_greedyNext, Cond.selects RX0 yX0_greedyNext yX0_greedyNext, Cond.code yX0_greedyNext cX0_greedyNext 7 (some .int), Cond.static yX4_has, Cond.code yX4_has cX4_has 2 (some .boolean), Cond.methodLink RX4 82 yX4_only]
def wsL_greedy_r3 : List Cond := [Cond.methodLink RX0 47 yX1_explainedBy, Cond.instanceMethod yX1_explainedBy, Cond.selects RX1 yX1_explainedBy yX1_explainedBy, Cond.code yX1_explainedBy cX1_explainedBy 2 (some .int), Cond.fieldLink RX1 21 "Alarmgrove$Graph" "above" "[I", Cond.methodLink RX0 30 yJ6_bitCount_0f7a4, Cond.static yJ6_bitCount_0f7a4, Cond.initialized RJ6, Cond.code yJ6_bitCount_0f7a4 cJ6_bitCount_0f7a4 1 (some .int), Cond.constant RJ6 265 (1431655765), Cond.constant RJ6 266 (858993459), Cond.constant RJ6 267 (252645135)]
def wsL_greedy : List Cond := .codeWith yL_greedy cL_greedy 3 (some .int) [(0, 5, 6, 15)] :: ((wsL_greedy_r1 ++ (wsL_greedy_r2 ++ wsL_greedy_r3)) ++ wsX00 ++ wsX40 ++ wsX10 ++ (vx_atS RX4 170 "java/lang/IndexOutOfBoundsException" ["java/lang/RuntimeException", "java/lang/Exception"]).filter goodWord)
def wsL_causeOf_r1 : List Cond := [Cond.classLink RL 15 "java/lang/IndexOutOfBoundsException", Cond.methodLink RL 59 yX4_causeOf, Cond.instanceMethod yX4_causeOf, Cond.selects RX4 yX4_causeOf yX4_causeOf, Cond.initialized RX4, Cond.code yX4_causeOf cX4_causeOf 2 (some .int), Cond.fieldLink RX4 30 "Alarmgrove" "raised" "I", Cond.fieldLink RX4 10 "Alarmgrove" "graph" "LAlarmgrove$Graph;", Cond.methodLink RX4 37 yX4_checkNode, Cond.static yX4_checkNode, Cond.code yX4_checkNode cX4_checkNode 1 none, Cond.classLink RX4 166 "java/lang/IndexOutOfBoundsException", Cond.initialized "java/lang/IndexOutOfBoundsException", Cond.methodLink RX4 45 yX4_has, Cond.static yX4_has, Cond.code yX4_has cX4_has 2 (some .boolean), Cond.methodLink RX4 82 yX4_only, Cond.static yX4_only, Cond.code yX4_only cX4_only 1 (some .int), Cond.methodLink RX4 137 yX4_diagnoser, Cond.instanceMethod yX4_diagnoser, Cond.selects RX4 yX4_diagnoser yX4_diagnoser, Cond.code yX4_diagnoser cX4_diagnoser 1 (some (.object "Alarmgrove$Diagnoser")), Cond.classLink RX4 142 RX0]
def wsL_causeOf_r2 : List Cond := [Cond.instantiable RX0 3, Cond.initialized RX0, Cond.methodLink RX4 177 yX0_init, Cond.instanceMethod yX0_init, Cond.code yX0_init cX0_init 3 none, Cond.methodLink RX0 3 objectInit, Cond.instanceMethod objectInit, Cond.code objectInit ⟨#[0xb1]⟩ 1 none, Cond.fieldLink RX0 9 "Alarmgrove$Diagnoser" "graph" "LAlarmgrove$Graph;", Cond.fieldLink RX0 15 "Alarmgrove$Diagnoser" "raised" "I", Cond.fieldLink RX0 23 "Alarmgrove$Diagnoser" "plausible" "I", Cond.methodLink RX0 19 yX0_plausibleOf, Cond.static yX0_plausibleOf, Cond.code yX0_plausibleOf cX0_plausibleOf 5 (some .int), Cond.methodLink RX0 65 yX1_users, Cond.instanceMethod yX1_users, Cond.selects RX1 yX1_users yX1_users, Cond.initialized RX1, Cond.code yX1_users cX1_users 2 (some .int), Cond.fieldLink RX1 15 "Alarmgrove$Graph" "users" "[I", Cond.methodLink RX4 146 yX0_bestBySearch, Cond.instanceMethod yX0_bestBySearch, Cond.selects RX0 yX0_bestBySearch yX0_bestBySearch, Cond.code yX0_bestBySearch cX0_bestBySearch 1 (some .int)]
def wsL_causeOf_r3 : List Cond := [Cond.methodLink RX0 26 yX0_search, Cond.static yX0_search, Cond.code yX0_search cX0_search 13 (some .int), Cond.static yX4_nodeAtPlace, Cond.code yX4_nodeAtPlace cX4_nodeAtPlace 4 (some .int), Cond.methodLink RX0 36 yX0_isBetter, Cond.instanceMethod yX0_isBetter, Cond.selects RX0 yX0_isBetter yX0_isBetter, Cond.code yX0_isBetter cX0_isBetter 8 (some .boolean), Cond.methodLink RX0 30 yJ6_bitCount_0f7a4, Cond.static yJ6_bitCount_0f7a4, Cond.initialized RJ6, Cond.code yJ6_bitCount_0f7a4 cJ6_bitCount_0f7a4 1 (some .int), Cond.constant RJ6 265 (1431655765), Cond.constant RJ6 266 (858993459), Cond.constant RJ6 267 (252645135), Cond.methodLink RX0 59 yX1_explainersOf, Cond.instanceMethod yX1_explainersOf, Cond.selects RX1 yX1_explainersOf yX1_explainersOf, Cond.code yX1_explainersOf cX1_explainersOf 2 (some .int), Cond.fieldLink RX1 18 "Alarmgrove$Graph" "below" "[I", Cond.methodLink RX0 47 yX1_explainedBy, Cond.instanceMethod yX1_explainedBy, Cond.selects RX1 yX1_explainedBy yX1_explainedBy]
def wsL_causeOf_r4 : List Cond := [Cond.code yX1_explainedBy cX1_explainedBy 2 (some .int), Cond.fieldLink RX1 21 "Alarmgrove$Graph" "above" "[I", Cond.methodLink RX4 171 yX1_explainersOf, Cond.methodLink RX4 174 yX4_nodeAtPlace]
def wsL_causeOf : List Cond := .codeWith yL_causeOf cL_causeOf 3 (some .int) [(0, 5, 6, 15)] :: ((wsL_causeOf_r1 ++ (wsL_causeOf_r2 ++ (wsL_causeOf_r3 ++ wsL_causeOf_r4))) ++ wsX40 ++ wsX00 ++ wsX10 ++ (vx_atS RX4 170 "java/lang/IndexOutOfBoundsException" ["java/lang/RuntimeException", "java/lang/Exception"]).filter goodWord)
def wsL_hangs_r1 : List Cond := [Cond.methodLink RL 62 yL_needs, Cond.static yL_needs, Cond.initialized RL, Cond.codeWith yL_needs cL_needs 4 (some .int) [(0, 14, 15, 15)], Cond.classLink RL 15 "java/lang/IndexOutOfBoundsException", Cond.methodLink RL 22 yX4_needs, Cond.instanceMethod yX4_needs, Cond.selects RX4 yX4_needs yX4_needs, Cond.initialized RX4, Cond.code yX4_needs cX4_needs 3 (some .boolean), Cond.fieldLink RX4 10 "Alarmgrove" "graph" "LAlarmgrove$Graph;", Cond.methodLink RX4 37 yX4_checkNode, Cond.static yX4_checkNode, Cond.code yX4_checkNode cX4_checkNode 1 none, Cond.classLink RX4 166 "java/lang/IndexOutOfBoundsException", Cond.initialized "java/lang/IndexOutOfBoundsException", Cond.methodLink RX4 62 yX1_needed, Cond.instanceMethod yX1_needed, Cond.selects RX1 yX1_needed yX1_needed, Cond.initialized RX1, Cond.code yX1_needed cX1_needed 2 (some .int), Cond.fieldLink RX1 9 "Alarmgrove$Graph" "needed" "[I", Cond.methodLink RX4 45 yX4_has, Cond.static yX4_has]
def wsL_hangs_r2 : List Cond := [Cond.code yX4_has cX4_has 2 (some .boolean), Cond.methodLink RX4 82 yX4_only, Cond.static yX4_only, Cond.code yX4_only cX4_only 1 (some .int), Cond.methodLink RL 67 yL_height, Cond.static yL_height, Cond.codeWith yL_height cL_height 3 (some .int) [(0, 5, 6, 15)], Cond.methodLink RL 28 yX4_height, Cond.instanceMethod yX4_height, Cond.selects RX4 yX4_height yX4_height, Cond.code yX4_height cX4_height 2 (some .int), Cond.methodLink RX4 65 yX1_longestWayDown, Cond.instanceMethod yX1_longestWayDown, Cond.selects RX1 yX1_longestWayDown yX1_longestWayDown, Cond.code yX1_longestWayDown cX1_longestWayDown 4 (some .int), Cond.methodLink RX1 35 yX1_step, Cond.static yX1_step, Cond.code yX1_step cX1_step 4 (some .int), Cond.methodLink RL 70 yL_depends, Cond.static yL_depends, Cond.codeWith yL_depends cL_depends 4 (some .int) [(0, 14, 15, 15)], Cond.methodLink RL 25 yX4_dependsOn, Cond.instanceMethod yX4_dependsOn, Cond.selects RX4 yX4_dependsOn yX4_dependsOn]
def wsL_hangs_r3 : List Cond := [Cond.code yX4_dependsOn cX4_dependsOn 3 (some .boolean), Cond.methodLink RX4 41 yX1_below, Cond.instanceMethod yX1_below, Cond.selects RX1 yX1_below yX1_below, Cond.code yX1_below cX1_below 2 (some .int), Cond.fieldLink RX1 18 "Alarmgrove$Graph" "below" "[I"]
def wsL_hangs : List Cond := .code yL_hangs cL_hangs 7 (some .boolean) :: ((wsL_hangs_r1 ++ (wsL_hangs_r2 ++ wsL_hangs_r3)) ++ wsX40 ++ wsX10 ++ (vx_atS RX4 170 "java/lang/IndexOutOfBoundsException" ["java/lang/RuntimeException", "java/lang/Exception"]).filter goodWord)
def wsL_size : List Cond := .code yL_size cL_size 3 (some .int) :: ([])
def wsL_all : List Cond := .code yL_all cL_all 4 (some .int) :: ([])
def wsL_isBest : List Cond := .code yL_isBest cL_isBest 10 (some .boolean) :: ([.methodLink RL 73 yL_all, .static yL_all, .initialized RL, .code yL_all cL_all 4 (some .int), .methodLink RL 77 yL_size, .static yL_size, .code yL_size cL_size 3 (some .int)])
def wsL_causes_r1 : List Cond := [Cond.arrayClass .int, Cond.methodLink RL 80 yL_ticket, Cond.static yL_ticket, Cond.initialized RL, Cond.codeWith yL_ticket cL_ticket 3 (some .int) [(0, 5, 6, 15)], Cond.classLink RL 15 "java/lang/IndexOutOfBoundsException", Cond.methodLink RL 43 yX4_ticketOf, Cond.instanceMethod yX4_ticketOf, Cond.selects RX4 yX4_ticketOf yX4_ticketOf, Cond.initialized RX4, Cond.code yX4_ticketOf cX4_ticketOf 2 (some .int), Cond.fieldLink RX4 26 "Alarmgrove" "tickets" "LAlarmgrove$Tickets;", Cond.methodLink RX4 37 yX4_checkNode, Cond.static yX4_checkNode, Cond.code yX4_checkNode cX4_checkNode 1 none, Cond.classLink RX4 166 "java/lang/IndexOutOfBoundsException", Cond.initialized "java/lang/IndexOutOfBoundsException", Cond.methodLink RX4 125 yX3_numberOf, Cond.instanceMethod yX3_numberOf, Cond.selects RX3 yX3_numberOf yX3_numberOf, Cond.initialized RX3, Cond.code yX3_numberOf cX3_numberOf 2 (some .int), Cond.fieldLink RX3 9 "Alarmgrove$Tickets" "numbers" "[I", Cond.methodLink RL 70 yL_depends]
def wsL_causes_r2 : List Cond := [Cond.static yL_depends, Cond.codeWith yL_depends cL_depends 4 (some .int) [(0, 14, 15, 15)], Cond.methodLink RL 25 yX4_dependsOn, Cond.instanceMethod yX4_dependsOn, Cond.selects RX4 yX4_dependsOn yX4_dependsOn, Cond.code yX4_dependsOn cX4_dependsOn 3 (some .boolean), Cond.fieldLink RX4 10 "Alarmgrove" "graph" "LAlarmgrove$Graph;", Cond.methodLink RX4 41 yX1_below, Cond.instanceMethod yX1_below, Cond.selects RX1 yX1_below yX1_below, Cond.initialized RX1, Cond.code yX1_below cX1_below 2 (some .int), Cond.fieldLink RX1 18 "Alarmgrove$Graph" "below" "[I", Cond.methodLink RX4 45 yX4_has, Cond.static yX4_has, Cond.code yX4_has cX4_has 2 (some .boolean), Cond.methodLink RX4 82 yX4_only, Cond.static yX4_only, Cond.code yX4_only cX4_only 1 (some .int), Cond.methodLink RL 62 yL_needs, Cond.static yL_needs, Cond.codeWith yL_needs cL_needs 4 (some .int) [(0, 14, 15, 15)], Cond.methodLink RL 22 yX4_needs, Cond.instanceMethod yX4_needs]
def wsL_causes_r3 : List Cond := [Cond.selects RX4 yX4_needs yX4_needs, Cond.code yX4_needs cX4_needs 3 (some .boolean), Cond.methodLink RX4 62 yX1_needed, Cond.instanceMethod yX1_needed, Cond.selects RX1 yX1_needed yX1_needed, Cond.code yX1_needed cX1_needed 2 (some .int), Cond.fieldLink RX1 9 "Alarmgrove$Graph" "needed" "[I", Cond.methodLink RL 83 yL_plausible, Cond.static yL_plausible, Cond.codeWith yL_plausible cL_plausible 3 (some .int) [(0, 13, 14, 15)], Cond.methodLink RL 46 yX4_isPlausible, Cond.instanceMethod yX4_isPlausible, Cond.selects RX4 yX4_isPlausible yX4_isPlausible, Cond.code yX4_isPlausible cX4_isPlausible 2 (some .boolean), Cond.methodLink RX4 137 yX4_diagnoser, Cond.instanceMethod yX4_diagnoser, Cond.selects RX4 yX4_diagnoser yX4_diagnoser, Cond.code yX4_diagnoser cX4_diagnoser 1 (some (.object "Alarmgrove$Diagnoser")), Cond.classLink RX4 142 RX0, Cond.instantiable RX0 3, Cond.initialized RX0, Cond.fieldLink RX4 30 "Alarmgrove" "raised" "I", Cond.methodLink RX4 177 yX0_init, Cond.instanceMethod yX0_init]
def wsL_causes_r4 : List Cond := [Cond.code yX0_init cX0_init 3 none, Cond.methodLink RX0 3 objectInit, Cond.instanceMethod objectInit, Cond.code objectInit ⟨#[0xb1]⟩ 1 none, Cond.fieldLink RX0 9 "Alarmgrove$Diagnoser" "graph" "LAlarmgrove$Graph;", Cond.fieldLink RX0 15 "Alarmgrove$Diagnoser" "raised" "I", Cond.fieldLink RX0 23 "Alarmgrove$Diagnoser" "plausible" "I", Cond.methodLink RX0 19 yX0_plausibleOf, Cond.static yX0_plausibleOf, Cond.code yX0_plausibleOf cX0_plausibleOf 5 (some .int), Cond.methodLink RX0 65 yX1_users, Cond.instanceMethod yX1_users, Cond.selects RX1 yX1_users yX1_users, Cond.code yX1_users cX1_users 2 (some .int), Cond.fieldLink RX1 15 "Alarmgrove$Graph" "users" "[I", Cond.methodLink RX4 141 yX0_plausibleNodes, Cond.instanceMethod yX0_plausibleNodes, Cond.selects RX0 yX0_plausibleNodes yX0_plausibleNodes, Cond.code yX0_plausibleNodes cX0_plausibleNodes 1 (some .int), Cond.methodLink RL 86 yX4_causes, Cond.instanceMethod yX4_causes, Cond.selects RX4 yX4_causes yX4_causes, Cond.code yX4_causes cX4_causes 1 (some .int), Cond.methodLink RX4 146 yX0_bestBySearch]
def wsL_causes_r5 : List Cond := [Cond.instanceMethod yX0_bestBySearch, Cond.selects RX0 yX0_bestBySearch yX0_bestBySearch, Cond.code yX0_bestBySearch cX0_bestBySearch 1 (some .int), Cond.methodLink RX0 26 yX0_search, Cond.static yX0_search, Cond.code yX0_search cX0_search 13 (some .int), Cond.static yX4_nodeAtPlace, Cond.code yX4_nodeAtPlace cX4_nodeAtPlace 4 (some .int), Cond.methodLink RX0 36 yX0_isBetter, Cond.instanceMethod yX0_isBetter, Cond.selects RX0 yX0_isBetter yX0_isBetter, Cond.code yX0_isBetter cX0_isBetter 8 (some .boolean), Cond.methodLink RX0 30 yJ6_bitCount_0f7a4, Cond.static yJ6_bitCount_0f7a4, Cond.initialized RJ6, Cond.code yJ6_bitCount_0f7a4 cJ6_bitCount_0f7a4 1 (some .int), Cond.constant RJ6 265 (1431655765), Cond.constant RJ6 266 (858993459), Cond.constant RJ6 267 (252645135), Cond.methodLink RX0 59 yX1_explainersOf, Cond.instanceMethod yX1_explainersOf, Cond.selects RX1 yX1_explainersOf yX1_explainersOf, Cond.code yX1_explainersOf cX1_explainersOf 2 (some .int), Cond.methodLink RX0 47 yX1_explainedBy]
def wsL_causes_r6 : List Cond := [Cond.instanceMethod yX1_explainedBy, Cond.selects RX1 yX1_explainedBy yX1_explainedBy, Cond.code yX1_explainedBy cX1_explainedBy 2 (some .int), Cond.fieldLink RX1 21 "Alarmgrove$Graph" "above" "[I", Cond.methodLink RX4 149 yJ6_bitCount_0f7a4, Cond.methodLink RL 90 yL_cause, Cond.static yL_cause, Cond.codeWith yL_cause cL_cause 3 (some .int) [(0, 5, 6, 15)], Cond.methodLink RL 50 yX4_cause, Cond.instanceMethod yX4_cause, Cond.selects RX4 yX4_cause yX4_cause, Cond.code yX4_cause cX4_cause 2 (some .int), Cond.methodLink RX4 154 yX4_nodeThere, Cond.static yX4_nodeThere, Cond.code yX4_nodeThere cX4_nodeThere 3 (some .int), Cond.methodLink RX4 174 yX4_nodeAtPlace, Cond.methodLink RL 92 yL_tried, Cond.static yL_tried, Cond.codeWith yL_tried cL_tried 3 (some .int) [(0, 5, 6, 15)], Cond.methodLink RL 53 yX4_causeByTrying, Cond.instanceMethod yX4_causeByTrying, Cond.selects RX4 yX4_causeByTrying yX4_causeByTrying, Cond.code yX4_causeByTrying cX4_causeByTrying 2 (some .int), Cond.methodLink RX4 157 yX0_bestByTrying]
def wsL_causes_r7 : List Cond := [Cond.instanceMethod yX0_bestByTrying, Cond.selects RX0 yX0_bestByTrying yX0_bestByTrying, Cond.code yX0_bestByTrying cX0_bestByTrying 5 (some .int), Cond.methodLink RX0 40 yX0_explainsAll, Cond.instanceMethod yX0_explainsAll, Cond.selects RX0 yX0_explainsAll yX0_explainsAll, Cond.code yX0_explainsAll cX0_explainsAll 3 (some .boolean), Cond.methodLink RL 95 yL_isBest, Cond.static yL_isBest, Cond.code yL_isBest cL_isBest 10 (some .boolean), Cond.methodLink RL 73 yL_all, Cond.static yL_all, Cond.code yL_all cL_all 4 (some .int), Cond.methodLink RL 77 yL_size, Cond.static yL_size, Cond.code yL_size cL_size 3 (some .int), Cond.methodLink RL 99 yX4_greedyCauses, Cond.instanceMethod yX4_greedyCauses, Cond.selects RX4 yX4_greedyCauses yX4_greedyCauses, Cond.code yX4_greedyCauses cX4_greedyCauses 1 (some .int), Cond.methodLink RX4 160 yX0_greedyCount, Cond.instanceMethod yX0_greedyCount, Cond.selects RX0 yX0_greedyCount yX0_greedyCount, Cond.code yX0_greedyCount cX0_greedyCount 3 (some .int)]
def wsL_causes_r8 : List Cond := [Cond.methodLink RX0 44 yX0_greedyNext, Cond.instanceMethod yX0_greedyNext, Cond.selects RX0 yX0_greedyNext yX0_greedyNext, Cond.code yX0_greedyNext cX0_greedyNext 7 (some .int), Cond.methodLink RL 102 yL_greedy, Cond.static yL_greedy, Cond.codeWith yL_greedy cL_greedy 3 (some .int) [(0, 5, 6, 15)], Cond.methodLink RL 56 yX4_greedyCause, Cond.instanceMethod yX4_greedyCause, Cond.selects RX4 yX4_greedyCause yX4_greedyCause, Cond.code yX4_greedyCause cX4_greedyCause 3 (some .int), Cond.methodLink RX4 163 yX0_greedyAt, Cond.instanceMethod yX0_greedyAt, Cond.selects RX0 yX0_greedyAt yX0_greedyAt, Cond.code yX0_greedyAt cX0_greedyAt 5 (some .int), Cond.methodLink RL 105 yL_causeOf, Cond.static yL_causeOf, Cond.codeWith yL_causeOf cL_causeOf 3 (some .int) [(0, 5, 6, 15)], Cond.methodLink RL 59 yX4_causeOf, Cond.instanceMethod yX4_causeOf, Cond.selects RX4 yX4_causeOf yX4_causeOf, Cond.code yX4_causeOf cX4_causeOf 2 (some .int), Cond.methodLink RX4 171 yX1_explainersOf]
def wsL_causes : List Cond := .code yL_causes cL_causes 16 (some .boolean) :: ((wsL_causes_r1 ++ (wsL_causes_r2 ++ (wsL_causes_r3 ++ (wsL_causes_r4 ++ (wsL_causes_r5 ++ (wsL_causes_r6 ++ (wsL_causes_r7 ++ wsL_causes_r8))))))) ++ wsX40 ++ wsX30 ++ wsX10 ++ wsX00 ++ (vx_atS RX4 170 "java/lang/IndexOutOfBoundsException" ["java/lang/RuntimeException", "java/lang/Exception"]).filter goodWord)
def wsL_law0_r1 : List Cond := [Cond.classLink RL 10 RX4, Cond.instantiable RX4 5, Cond.initialized RX4, Cond.methodLink RL 107 yX4_init, Cond.instanceMethod yX4_init, Cond.code yX4_init cX4_init 1 none, Cond.methodLink RX4 1 objectInit, Cond.instanceMethod objectInit, Cond.code objectInit ⟨#[0xb1]⟩ 1 none, Cond.classLink RX4 7 RX1, Cond.instantiable RX1 4, Cond.initialized RX1, Cond.fieldLink RX4 10 "Alarmgrove" "graph" "LAlarmgrove$Graph;", Cond.classLink RX4 16 RX2, Cond.instantiable RX2 6, Cond.initialized RX2, Cond.fieldLink RX4 19 "Alarmgrove" "log" "LAlarmgrove$Log;", Cond.classLink RX4 23 RX3, Cond.instantiable RX3 3, Cond.initialized RX3, Cond.fieldLink RX4 26 "Alarmgrove" "tickets" "LAlarmgrove$Tickets;", Cond.fieldLink RX4 30 "Alarmgrove" "raised" "I", Cond.fieldLink RX4 34 "Alarmgrove" "time" "I", Cond.instanceMethod yX1_init]
def wsL_law0_r2 : List Cond := [Cond.code yX1_init cX1_init 1 none, Cond.methodLink RX1 3 objectInit, Cond.arrayClass .int, Cond.fieldLink RX1 9 "Alarmgrove$Graph" "needed" "[I", Cond.fieldLink RX1 15 "Alarmgrove$Graph" "users" "[I", Cond.fieldLink RX1 18 "Alarmgrove$Graph" "below" "[I", Cond.fieldLink RX1 21 "Alarmgrove$Graph" "above" "[I", Cond.instanceMethod yX2_init, Cond.code yX2_init cX2_init 1 none, Cond.methodLink RX2 3 objectInit, Cond.fieldLink RX2 9 "Alarmgrove$Log" "kinds" "[I", Cond.fieldLink RX2 15 "Alarmgrove$Log" "nodes" "[I", Cond.fieldLink RX2 18 "Alarmgrove$Log" "times" "[I", Cond.fieldLink RX2 21 "Alarmgrove$Log" "lengths" "[I", Cond.fieldLink RX2 24 "Alarmgrove$Log" "raisedAt" "[I", Cond.fieldLink RX2 27 "Alarmgrove$Log" "count" "I", Cond.methodLink RX4 25 yX3_init, Cond.instanceMethod yX3_init, Cond.code yX3_init cX3_init 2 none, Cond.methodLink RX3 3 objectInit, Cond.fieldLink RX3 9 "Alarmgrove$Tickets" "numbers" "[I", Cond.fieldLink RX3 15 "Alarmgrove$Tickets" "targets" "[I", Cond.fieldLink RX3 18 "Alarmgrove$Tickets" "newest" "I", Cond.methodLink RL 108 yL_hangs]
def wsL_law0_r3 : List Cond := [Cond.static yL_hangs, Cond.initialized RL, Cond.code yL_hangs cL_hangs 7 (some .boolean), Cond.methodLink RL 62 yL_needs, Cond.static yL_needs, Cond.codeWith yL_needs cL_needs 4 (some .int) [(0, 14, 15, 15)], Cond.classLink RL 15 "java/lang/IndexOutOfBoundsException", Cond.methodLink RL 22 yX4_needs, Cond.instanceMethod yX4_needs, Cond.selects RX4 yX4_needs yX4_needs, Cond.code yX4_needs cX4_needs 3 (some .boolean), Cond.methodLink RX4 37 yX4_checkNode, Cond.static yX4_checkNode, Cond.code yX4_checkNode cX4_checkNode 1 none, Cond.classLink RX4 166 "java/lang/IndexOutOfBoundsException", Cond.initialized "java/lang/IndexOutOfBoundsException", Cond.methodLink RX4 62 yX1_needed, Cond.instanceMethod yX1_needed, Cond.selects RX1 yX1_needed yX1_needed, Cond.code yX1_needed cX1_needed 2 (some .int), Cond.methodLink RX4 45 yX4_has, Cond.static yX4_has, Cond.code yX4_has cX4_has 2 (some .boolean), Cond.methodLink RX4 82 yX4_only]
def wsL_law0_r4 : List Cond := [Cond.static yX4_only, Cond.code yX4_only cX4_only 1 (some .int), Cond.methodLink RL 67 yL_height, Cond.static yL_height, Cond.codeWith yL_height cL_height 3 (some .int) [(0, 5, 6, 15)], Cond.methodLink RL 28 yX4_height, Cond.instanceMethod yX4_height, Cond.selects RX4 yX4_height yX4_height, Cond.code yX4_height cX4_height 2 (some .int), Cond.methodLink RX4 65 yX1_longestWayDown, Cond.instanceMethod yX1_longestWayDown, Cond.selects RX1 yX1_longestWayDown yX1_longestWayDown, Cond.code yX1_longestWayDown cX1_longestWayDown 4 (some .int), Cond.methodLink RX1 35 yX1_step, Cond.static yX1_step, Cond.code yX1_step cX1_step 4 (some .int), Cond.methodLink RL 70 yL_depends, Cond.static yL_depends, Cond.codeWith yL_depends cL_depends 4 (some .int) [(0, 14, 15, 15)], Cond.methodLink RL 25 yX4_dependsOn, Cond.instanceMethod yX4_dependsOn, Cond.selects RX4 yX4_dependsOn yX4_dependsOn, Cond.code yX4_dependsOn cX4_dependsOn 3 (some .boolean), Cond.methodLink RX4 41 yX1_below]
def wsL_law0_r5 : List Cond := [Cond.instanceMethod yX1_below, Cond.selects RX1 yX1_below yX1_below, Cond.code yX1_below cX1_below 2 (some .int), Cond.methodLink RL 112 yL_causes, Cond.static yL_causes, Cond.code yL_causes cL_causes 16 (some .boolean), Cond.methodLink RL 80 yL_ticket, Cond.static yL_ticket, Cond.codeWith yL_ticket cL_ticket 3 (some .int) [(0, 5, 6, 15)], Cond.methodLink RL 43 yX4_ticketOf, Cond.instanceMethod yX4_ticketOf, Cond.selects RX4 yX4_ticketOf yX4_ticketOf, Cond.code yX4_ticketOf cX4_ticketOf 2 (some .int), Cond.methodLink RX4 125 yX3_numberOf, Cond.instanceMethod yX3_numberOf, Cond.selects RX3 yX3_numberOf yX3_numberOf, Cond.code yX3_numberOf cX3_numberOf 2 (some .int), Cond.methodLink RL 83 yL_plausible, Cond.static yL_plausible, Cond.codeWith yL_plausible cL_plausible 3 (some .int) [(0, 13, 14, 15)], Cond.methodLink RL 46 yX4_isPlausible, Cond.instanceMethod yX4_isPlausible, Cond.selects RX4 yX4_isPlausible yX4_isPlausible, Cond.code yX4_isPlausible cX4_isPlausible 2 (some .boolean)]
def wsL_law0_r6 : List Cond := [Cond.methodLink RX4 137 yX4_diagnoser, Cond.instanceMethod yX4_diagnoser, Cond.selects RX4 yX4_diagnoser yX4_diagnoser, Cond.code yX4_diagnoser cX4_diagnoser 1 (some (.object "Alarmgrove$Diagnoser")), Cond.classLink RX4 142 RX0, Cond.instantiable RX0 3, Cond.initialized RX0, Cond.methodLink RX4 177 yX0_init, Cond.instanceMethod yX0_init, Cond.code yX0_init cX0_init 3 none, Cond.methodLink RX0 3 objectInit, Cond.fieldLink RX0 9 "Alarmgrove$Diagnoser" "graph" "LAlarmgrove$Graph;", Cond.fieldLink RX0 15 "Alarmgrove$Diagnoser" "raised" "I", Cond.fieldLink RX0 23 "Alarmgrove$Diagnoser" "plausible" "I", Cond.methodLink RX0 19 yX0_plausibleOf, Cond.static yX0_plausibleOf, Cond.code yX0_plausibleOf cX0_plausibleOf 5 (some .int), Cond.methodLink RX0 65 yX1_users, Cond.instanceMethod yX1_users, Cond.selects RX1 yX1_users yX1_users, Cond.code yX1_users cX1_users 2 (some .int), Cond.methodLink RX4 141 yX0_plausibleNodes, Cond.instanceMethod yX0_plausibleNodes, Cond.selects RX0 yX0_plausibleNodes yX0_plausibleNodes]
def wsL_law0_r7 : List Cond := [Cond.code yX0_plausibleNodes cX0_plausibleNodes 1 (some .int), Cond.methodLink RL 86 yX4_causes, Cond.instanceMethod yX4_causes, Cond.selects RX4 yX4_causes yX4_causes, Cond.code yX4_causes cX4_causes 1 (some .int), Cond.methodLink RX4 146 yX0_bestBySearch, Cond.instanceMethod yX0_bestBySearch, Cond.selects RX0 yX0_bestBySearch yX0_bestBySearch, Cond.code yX0_bestBySearch cX0_bestBySearch 1 (some .int), Cond.methodLink RX0 26 yX0_search, Cond.static yX0_search, Cond.code yX0_search cX0_search 13 (some .int), Cond.static yX4_nodeAtPlace, Cond.code yX4_nodeAtPlace cX4_nodeAtPlace 4 (some .int), Cond.methodLink RX0 36 yX0_isBetter, Cond.instanceMethod yX0_isBetter, Cond.selects RX0 yX0_isBetter yX0_isBetter, Cond.code yX0_isBetter cX0_isBetter 8 (some .boolean), Cond.methodLink RX0 30 yJ6_bitCount_0f7a4, Cond.static yJ6_bitCount_0f7a4, Cond.initialized RJ6, Cond.code yJ6_bitCount_0f7a4 cJ6_bitCount_0f7a4 1 (some .int), Cond.constant RJ6 265 (1431655765), Cond.constant RJ6 266 (858993459)]
def wsL_law0_r8 : List Cond := [Cond.constant RJ6 267 (252645135), Cond.methodLink RX0 59 yX1_explainersOf, Cond.instanceMethod yX1_explainersOf, Cond.selects RX1 yX1_explainersOf yX1_explainersOf, Cond.code yX1_explainersOf cX1_explainersOf 2 (some .int), Cond.methodLink RX0 47 yX1_explainedBy, Cond.instanceMethod yX1_explainedBy, Cond.selects RX1 yX1_explainedBy yX1_explainedBy, Cond.code yX1_explainedBy cX1_explainedBy 2 (some .int), Cond.methodLink RX4 149 yJ6_bitCount_0f7a4, Cond.methodLink RL 90 yL_cause, Cond.static yL_cause, Cond.codeWith yL_cause cL_cause 3 (some .int) [(0, 5, 6, 15)], Cond.methodLink RL 50 yX4_cause, Cond.instanceMethod yX4_cause, Cond.selects RX4 yX4_cause yX4_cause, Cond.code yX4_cause cX4_cause 2 (some .int), Cond.methodLink RX4 154 yX4_nodeThere, Cond.static yX4_nodeThere, Cond.code yX4_nodeThere cX4_nodeThere 3 (some .int), Cond.methodLink RX4 174 yX4_nodeAtPlace, Cond.methodLink RL 92 yL_tried, Cond.static yL_tried, Cond.codeWith yL_tried cL_tried 3 (some .int) [(0, 5, 6, 15)]]
def wsL_law0_r9 : List Cond := [Cond.methodLink RL 53 yX4_causeByTrying, Cond.instanceMethod yX4_causeByTrying, Cond.selects RX4 yX4_causeByTrying yX4_causeByTrying, Cond.code yX4_causeByTrying cX4_causeByTrying 2 (some .int), Cond.methodLink RX4 157 yX0_bestByTrying, Cond.instanceMethod yX0_bestByTrying, Cond.selects RX0 yX0_bestByTrying yX0_bestByTrying, Cond.code yX0_bestByTrying cX0_bestByTrying 5 (some .int), Cond.methodLink RX0 40 yX0_explainsAll, Cond.instanceMethod yX0_explainsAll, Cond.selects RX0 yX0_explainsAll yX0_explainsAll, Cond.code yX0_explainsAll cX0_explainsAll 3 (some .boolean), Cond.methodLink RL 95 yL_isBest, Cond.static yL_isBest, Cond.code yL_isBest cL_isBest 10 (some .boolean), Cond.methodLink RL 73 yL_all, Cond.static yL_all, Cond.code yL_all cL_all 4 (some .int), Cond.methodLink RL 77 yL_size, Cond.static yL_size, Cond.code yL_size cL_size 3 (some .int), Cond.methodLink RL 99 yX4_greedyCauses, Cond.instanceMethod yX4_greedyCauses, Cond.selects RX4 yX4_greedyCauses yX4_greedyCauses]
def wsL_law0_r10 : List Cond := [Cond.code yX4_greedyCauses cX4_greedyCauses 1 (some .int), Cond.methodLink RX4 160 yX0_greedyCount, Cond.instanceMethod yX0_greedyCount, Cond.selects RX0 yX0_greedyCount yX0_greedyCount, Cond.code yX0_greedyCount cX0_greedyCount 3 (some .int), Cond.methodLink RX0 44 yX0_greedyNext, Cond.instanceMethod yX0_greedyNext, Cond.selects RX0 yX0_greedyNext yX0_greedyNext, Cond.code yX0_greedyNext cX0_greedyNext 7 (some .int), Cond.methodLink RL 102 yL_greedy, Cond.static yL_greedy, Cond.codeWith yL_greedy cL_greedy 3 (some .int) [(0, 5, 6, 15)], Cond.methodLink RL 56 yX4_greedyCause, Cond.instanceMethod yX4_greedyCause, Cond.selects RX4 yX4_greedyCause yX4_greedyCause, Cond.code yX4_greedyCause cX4_greedyCause 3 (some .int), Cond.methodLink RX4 163 yX0_greedyAt, Cond.instanceMethod yX0_greedyAt, Cond.selects RX0 yX0_greedyAt yX0_greedyAt, Cond.code yX0_greedyAt cX0_greedyAt 5 (some .int), Cond.methodLink RL 105 yL_causeOf, Cond.static yL_causeOf, Cond.codeWith yL_causeOf cL_causeOf 3 (some .int) [(0, 5, 6, 15)], Cond.methodLink RL 59 yX4_causeOf]
def wsL_law0_r11 : List Cond := [Cond.instanceMethod yX4_causeOf, Cond.selects RX4 yX4_causeOf yX4_causeOf, Cond.code yX4_causeOf cX4_causeOf 2 (some .int), Cond.methodLink RX4 171 yX1_explainersOf, Cond.methodLink RL 114 yL_cell, Cond.static yL_cell, Cond.code yL_cell cL_cell 2 (some .int), Cond.constant RL 7 (47777), Cond.constant RL 8 (2147483647), Cond.methodLink RL 117 yL_need, Cond.static yL_need, Cond.codeWith yL_need cL_need 4 (some .int) [(0, 14, 15, 15), (0, 14, 19, 17)], Cond.classLink RL 17 "java/lang/IllegalArgumentException", Cond.methodLink RL 9 yX4_need, Cond.instanceMethod yX4_need, Cond.selects RX4 yX4_need yX4_need, Cond.code yX4_need cX4_need 3 (some .boolean), Cond.classLink RX4 49 "java/lang/IllegalArgumentException", Cond.initialized "java/lang/IllegalArgumentException", Cond.methodLink RX4 56 yX1_link, Cond.instanceMethod yX1_link, Cond.selects RX1 yX1_link yX1_link, Cond.code yX1_link cX1_link 3 (some .boolean), Cond.methodLink RX1 32 yX1_followAll]
def wsL_law0_r12 : List Cond := [Cond.instanceMethod yX1_followAll, Cond.selects RX1 yX1_followAll yX1_followAll, Cond.code yX1_followAll cX1_followAll 2 none, Cond.methodLink RX1 39 yX1_follow, Cond.static yX1_follow, Cond.code yX1_follow cX1_follow 5 (some .int), Cond.methodLink RL 119 yL_release, Cond.static yL_release, Cond.codeWith yL_release cL_release 4 (some .int) [(0, 14, 15, 15)], Cond.methodLink RL 19 yX4_release, Cond.instanceMethod yX4_release, Cond.selects RX4 yX4_release yX4_release, Cond.code yX4_release cX4_release 3 (some .boolean), Cond.methodLink RX4 59 yX1_unlink, Cond.instanceMethod yX1_unlink, Cond.selects RX1 yX1_unlink yX1_unlink, Cond.code yX1_unlink cX1_unlink 3 (some .boolean), Cond.methodLink RL 121 yX4_now, Cond.instanceMethod yX4_now, Cond.selects RX4 yX4_now yX4_now, Cond.code yX4_now cX4_now 1 (some .int), Cond.methodLink RL 124 yL_tick, Cond.static yL_tick, Cond.codeWith yL_tick cL_tick 3 (some .int) [(0, 5, 6, 17)]]
def wsL_law0_r13 : List Cond := [Cond.methodLink RL 32 yX4_tick, Cond.instanceMethod yX4_tick, Cond.selects RX4 yX4_tick yX4_tick, Cond.code yX4_tick cX4_tick 2 (some .int), Cond.methodLink RX4 68 yX4_checkTicks, Cond.static yX4_checkTicks, Cond.code yX4_checkTicks cX4_checkTicks 2 none, Cond.methodLink RL 126 yX4_events, Cond.instanceMethod yX4_events, Cond.selects RX4 yX4_events yX4_events, Cond.code yX4_events cX4_events 1 (some .int), Cond.methodLink RX4 103 yX2_count, Cond.instanceMethod yX2_count, Cond.selects RX2 yX2_count yX2_count, Cond.code yX2_count cX2_count 1 (some .int), Cond.methodLink RL 129 yL_clear, Cond.static yL_clear, Cond.codeWith yL_clear cL_clear 3 (some .int) [(0, 5, 6, 15), (0, 5, 10, 38)], Cond.classLink RL 38 "java/lang/IllegalStateException", Cond.methodLink RL 40 yX4_clear, Cond.instanceMethod yX4_clear, Cond.selects RX4 yX4_clear yX4_clear, Cond.code yX4_clear cX4_clear 2 (some .int), Cond.methodLink RX4 72 yX4_checkChange]
def wsL_law0_r14 : List Cond := [Cond.instanceMethod yX4_checkChange, Cond.selects RX4 yX4_checkChange yX4_checkChange, Cond.code yX4_checkChange cX4_checkChange 2 none, Cond.classLink RX4 188 "java/lang/IllegalStateException", Cond.initialized "java/lang/IllegalStateException", Cond.methodLink RX4 184 yX2_isFull, Cond.instanceMethod yX2_isFull, Cond.selects RX2 yX2_isFull yX2_isFull, Cond.code yX2_isFull cX2_isFull 1 (some .boolean), Cond.methodLink RX4 89 yX2_addClear, Cond.instanceMethod yX2_addClear, Cond.selects RX2 yX2_addClear yX2_addClear, Cond.code yX2_addClear cX2_addClear 3 none, Cond.methodLink RX2 31 yX2_add, Cond.instanceMethod yX2_add, Cond.selects RX2 yX2_add yX2_add, Cond.code yX2_add cX2_add 5 none, Cond.methodLink RX4 92 yX3_leave, Cond.instanceMethod yX3_leave, Cond.selects RX3 yX3_leave yX3_leave, Cond.code yX3_leave cX3_leave 3 (some .int), Cond.methodLink RX3 26 yX3_sizeOf, Cond.instanceMethod yX3_sizeOf, Cond.selects RX3 yX3_sizeOf yX3_sizeOf]
def wsL_law0_r15 : List Cond := [Cond.code yX3_sizeOf cX3_sizeOf 4 (some .int), Cond.methodLink RX3 22 yX3_isUsed, Cond.instanceMethod yX3_isUsed, Cond.selects RX3 yX3_isUsed yX3_isUsed, Cond.code yX3_isUsed cX3_isUsed 2 (some .boolean), Cond.methodLink RL 131 yL_raise, Cond.static yL_raise, Cond.codeWith yL_raise cL_raise 3 (some .int) [(0, 5, 6, 15), (0, 5, 10, 38)], Cond.methodLink RL 35 yX4_raise, Cond.instanceMethod yX4_raise, Cond.selects RX4 yX4_raise yX4_raise, Cond.code yX4_raise cX4_raise 3 (some .int), Cond.methodLink RX4 76 yX2_addRaise, Cond.instanceMethod yX2_addRaise, Cond.selects RX2 yX2_addRaise yX2_addRaise, Cond.code yX2_addRaise cX2_addRaise 3 none, Cond.methodLink RX4 79 yX1_above, Cond.instanceMethod yX1_above, Cond.selects RX1 yX1_above yX1_above, Cond.code yX1_above cX1_above 2 (some .int), Cond.methodLink RX4 85 yX3_join, Cond.instanceMethod yX3_join, Cond.selects RX3 yX3_join yX3_join, Cond.code yX3_join cX3_join 3 (some .int)]
def wsL_law0_r16 : List Cond := [Cond.methodLink RX3 33 yX3_unite, Cond.instanceMethod yX3_unite, Cond.selects RX3 yX3_unite yX3_unite, Cond.code yX3_unite cX3_unite 4 (some .int), Cond.methodLink RX3 40 Lib.Math.min.name, Cond.static Lib.Math.min.name, Cond.initialized "java/lang/Math", Cond.code Lib.Math.min.name Lib.Math.min.code 2 (some .int), Cond.methodLink RX3 46 yX3_merge, Cond.instanceMethod yX3_merge, Cond.selects RX3 yX3_merge yX3_merge, Cond.code yX3_merge cX3_merge 4 none]
def wsL_law0 : List Cond := (wsL_law0_r1 ++ (wsL_law0_r2 ++ (wsL_law0_r3 ++ (wsL_law0_r4 ++ (wsL_law0_r5 ++ (wsL_law0_r6 ++ (wsL_law0_r7 ++ (wsL_law0_r8 ++ (wsL_law0_r9 ++ (wsL_law0_r10 ++ (wsL_law0_r11 ++ (wsL_law0_r12 ++ (wsL_law0_r13 ++ (wsL_law0_r14 ++ (wsL_law0_r15 ++ wsL_law0_r16))))))))))))))) ++ wsX40 ++ wsX10 ++ wsX20 ++ wsX30 ++ wsX00 ++ ([] : List Cond)
def wsL_law : List Cond := wsL_law0 ++ (vx_atS RX4 170 "java/lang/IndexOutOfBoundsException" ["java/lang/RuntimeException", "java/lang/Exception"]).filter goodWord ++ (vx_atS RX4 53 "java/lang/IllegalArgumentException" ["java/lang/RuntimeException", "java/lang/Exception"]).filter goodWord ++ (vx_atS RX4 192 "java/lang/IllegalStateException" ["java/lang/RuntimeException", "java/lang/Exception"]).filter goodWord
abbrev vwCl : List vw_C := [(RX0, TX0, 3), (RX1, TX1, 4), (RX2, TX2, 6), (RX3, TX3, 3), (RX4, TX4, 5)]
end
section
set_option maxRecDepth 20000 in
theorem wsL_law0_r1_in : ∀ w ∈ wsL_law0_r1, w ∈ lw_tbl := fun w h => (goodIn_p wsL_law0_r1 [29, 32] (by decide +kernel) (by decide +kernel) w h).1
set_option maxRecDepth 20000 in
theorem wsL_law0_r2_in : ∀ w ∈ wsL_law0_r2, w ∈ lw_tbl := fun w h => (goodIn_p wsL_law0_r2 [37, 57, 82] (by decide +kernel) (by decide +kernel) w h).1
set_option maxRecDepth 20000 in
theorem wsL_law0_r3_in : ∀ w ∈ wsL_law0_r3, w ∈ lw_tbl := fun w h => (goodIn_p wsL_law0_r3 [385, 266, 138, 270, 213] (by decide +kernel) (by decide +kernel) w h).1
set_option maxRecDepth 20000 in
theorem wsL_law0_r4_in : ∀ w ∈ wsL_law0_r4, w ∈ lw_tbl := fun w h => (goodIn_p wsL_law0_r4 [216, 392, 396, 248, 277] (by decide +kernel) (by decide +kernel) w h).1
set_option maxRecDepth 20000 in
theorem wsL_law0_r5_in : ∀ w ∈ wsL_law0_r5, w ∈ lw_tbl := fun w h => (goodIn_p wsL_law0_r5 [210, 399, 378, 382, 406] rfl (by decide +kernel) w h).1
set_option maxRecDepth 20000 in
theorem wsL_law0_r6_in : ∀ w ∈ wsL_law0_r6, w ∈ lw_tbl := fun w h => (goodIn_p wsL_law0_r6 [410, 415, 419, 423] (by decide +kernel) (by decide +kernel) w h).1
set_option maxRecDepth 20000 in
theorem wsL_law0_r7_in : ∀ w ∈ wsL_law0_r7, w ∈ lw_tbl := fun w h => (goodIn_p wsL_law0_r7 [438, 442, 446, 449, 452, 456, 459] (by decide +kernel) (by decide +kernel) w h).1
set_option maxRecDepth 20000 in
theorem wsL_law0_r8_in : ∀ w ∈ wsL_law0_r8, w ∈ lw_tbl := fun w h => (goodIn_p wsL_law0_r8 [467, 471, 479, 482] (by decide +kernel) (by decide +kernel) w h).1
set_option maxRecDepth 20000 in
theorem wsL_law0_r9_in : ∀ w ∈ wsL_law0_r9, w ∈ lw_tbl := fun w h => (goodIn_p wsL_law0_r9 [491, 495, 499, 502, 505, 508] (by decide +kernel) (by decide +kernel) w h).1
set_option maxRecDepth 20000 in
theorem wsL_law0_r10_in : ∀ w ∈ wsL_law0_r10, w ∈ lw_tbl := fun w h => (goodIn_p wsL_law0_r10 [512, 516, 520, 527, 531] (by decide +kernel) (by decide +kernel) w h).1
set_option maxRecDepth 20000 in
theorem wsL_law0_r11_in : ∀ w ∈ wsL_law0_r11, w ∈ lw_tbl := fun w h => (goodIn_p wsL_law0_r11 [538, 124, 135, 236] (by decide +kernel) (by decide +kernel) w h).1
set_option maxRecDepth 20000 in
theorem wsL_law0_r12_in : ∀ w ∈ wsL_law0_r12, w ∈ lw_tbl := fun w h => (goodIn_p wsL_law0_r12 [242, 245, 255, 259, 113] (by decide +kernel) (by decide +kernel) w h).1
set_option maxRecDepth 20000 in
theorem wsL_law0_r13_in : ∀ w ∈ wsL_law0_r13, w ∈ lw_tbl := fun w h => (goodIn_p wsL_law0_r13 [284, 287, 117, 121, 359] (by decide +kernel) (by decide +kernel) w h).1
set_option maxRecDepth 20000 in
theorem wsL_law0_r14_in : ∀ w ∈ wsL_law0_r14, w ∈ lw_tbl := fun w h => (goodIn_p wsL_law0_r14 [300, 304, 363, 328, 367] (by decide +kernel) (by decide +kernel) w h).1
set_option maxRecDepth 20000 in
theorem wsL_law0_r15_in : ∀ w ∈ wsL_law0_r15, w ∈ lw_tbl := fun w h => (goodIn_p wsL_law0_r15 [371, 352, 296, 324, 332, 336] (by decide +kernel) (by decide +kernel) w h).1
set_option maxRecDepth 20000 in
theorem wsL_law0_r16_in : ∀ w ∈ wsL_law0_r16, w ∈ lw_tbl := fun w h => (goodIn_p wsL_law0_r16 [340, 344, 348] (by decide +kernel) (by decide +kernel) w h).1
theorem wsX40_in9 : ∀ w ∈ wsX40, w ∈ lw_tbl := by decide +kernel
theorem wsX10_in9 : ∀ w ∈ wsX10, w ∈ lw_tbl := by decide +kernel
theorem wsX20_in9 : ∀ w ∈ wsX20, w ∈ lw_tbl := by decide +kernel
theorem wsX30_in9 : ∀ w ∈ wsX30, w ∈ lw_tbl := by decide +kernel
theorem wsX00_in9 : ∀ w ∈ wsX00, w ∈ lw_tbl := by decide +kernel
theorem wsL_law_in0 : ∀ w ∈ wsL_law0, w ∈ lw_tbl := fun w => fun h => (List.mem_append.mp h).elim (fun h => (List.mem_append.mp h).elim (fun h => (List.mem_append.mp h).elim (fun h => (List.mem_append.mp h).elim (fun h => (List.mem_append.mp h).elim (fun h => (List.mem_append.mp h).elim (fun h => (List.mem_append.mp h).elim (wsL_law0_r1_in w) (fun h => (List.mem_append.mp h).elim (wsL_law0_r2_in w) (fun h => (List.mem_append.mp h).elim (wsL_law0_r3_in w) (fun h => (List.mem_append.mp h).elim (wsL_law0_r4_in w) (fun h => (List.mem_append.mp h).elim (wsL_law0_r5_in w) (fun h => (List.mem_append.mp h).elim (wsL_law0_r6_in w) (fun h => (List.mem_append.mp h).elim (wsL_law0_r7_in w) (fun h => (List.mem_append.mp h).elim (wsL_law0_r8_in w) (fun h => (List.mem_append.mp h).elim (wsL_law0_r9_in w) (fun h => (List.mem_append.mp h).elim (wsL_law0_r10_in w) (fun h => (List.mem_append.mp h).elim (wsL_law0_r11_in w) (fun h => (List.mem_append.mp h).elim (wsL_law0_r12_in w) (fun h => (List.mem_append.mp h).elim (wsL_law0_r13_in w) (fun h => (List.mem_append.mp h).elim (wsL_law0_r14_in w) (fun h => (List.mem_append.mp h).elim (wsL_law0_r15_in w) (fun h => wsL_law0_r16_in w h)))))))))))))))) (wsX40_in9 w)) (wsX10_in9 w)) (wsX20_in9 w)) (wsX30_in9 w)) (wsX00_in9 w)) (fun h => absurd h List.not_mem_nil)
set_option maxRecDepth 20000 in
theorem wsL_law_x0 : ∀ w ∈ (vx_atS RX4 170 "java/lang/IndexOutOfBoundsException" ["java/lang/RuntimeException", "java/lang/Exception"]).filter goodWord, w ∈ lw_tbl := by decide +kernel
theorem wsL_law_x1 : ∀ w ∈ (vx_atS RX4 53 "java/lang/IllegalArgumentException" ["java/lang/RuntimeException", "java/lang/Exception"]).filter goodWord, w ∈ lw_tbl := by decide +kernel
theorem wsL_law_x2 : ∀ w ∈ (vx_atS RX4 192 "java/lang/IllegalStateException" ["java/lang/RuntimeException", "java/lang/Exception"]).filter goodWord, w ∈ lw_tbl := by decide +kernel
theorem wsL_law_in : ∀ w ∈ wsL_law, w ∈ lw_tbl := fun w h => (List.mem_append.mp h).elim (fun h => (List.mem_append.mp h).elim (fun h => (List.mem_append.mp h).elim (fun h => wsL_law_in0 w h) (fun h => wsL_law_x0 w h)) (fun h => wsL_law_x1 w h)) (fun h => wsL_law_x2 w h)
end
section
set_option maxRecDepth 20000 in
theorem ggX0_init_X0_plausibleOf : GoodIn wsX0_init wsX0_plausibleOf := goodIn_r _ [10, 11, 12, 13, 14, 15, 16, 17, 18, 19, 23, 24, 25, 26] (by decide +kernel) (by decide +kernel)
set_option maxRecDepth 20000 in
theorem gX0_init_X0_plausibleOf : GoodIn wsX0_init (va_wsS RX0 19 yX0_plausibleOf wsX0_plausibleOf) := goodIn_app (goodIn_of _ (by decide +kernel)) ggX0_init_X0_plausibleOf
set_option maxRecDepth 20000 in
theorem ggX0_bestBySearch_X0_search : GoodIn wsX0_bestBySearch wsX0_search := goodIn_r _ [6, 7, 8, 9, 10, 11, 12, 13, 14, 15, 16, 17, 18, 19, 5, 20, 1, 21, 22, 23, 24, 25, 26, 27, 28, 29, 30, 31, 32, 33, 34, 35, 36, 37, 38, 3, 4, 39, 40, 41, 42, 43, 44, 45] (by decide +kernel) (by decide +kernel)
set_option maxRecDepth 20000 in
theorem gX0_bestBySearch_X0_search : GoodIn wsX0_bestBySearch (va_wsS RX0 26 yX0_search wsX0_search) := goodIn_app (goodIn_of _ (by decide +kernel)) ggX0_bestBySearch_X0_search
set_option maxRecDepth 20000 in
theorem ggX0_bestByTrying_J6_bitCount_0f7a4 : GoodIn wsX0_bestByTrying wsJ6_bitCount_0f7a4 := goodIn_r _ [6, 7, 8, 9] (by decide +kernel) (by decide +kernel)
set_option maxRecDepth 20000 in
theorem gX0_bestByTrying_J6_bitCount_0f7a4 : GoodIn wsX0_bestByTrying (va_wsS RX0 30 yJ6_bitCount_0f7a4 wsJ6_bitCount_0f7a4) := goodIn_app (goodIn_of _ (by decide +kernel)) ggX0_bestByTrying_J6_bitCount_0f7a4
set_option maxRecDepth 20000 in
theorem ggX0_bestByTrying_X0_isBetter : GoodIn wsX0_bestByTrying wsX0_isBetter := goodIn_r _ [14, 1, 3, 4, 5, 6, 7, 8, 9, 15, 16, 17, 18, 19, 20, 21, 22, 23, 35, 36, 37] (by decide +kernel) (by decide +kernel)
set_option maxRecDepth 20000 in
theorem gX0_bestByTrying_X0_isBetter : GoodIn wsX0_bestByTrying (wsV RX0 36 RX0 yX0_isBetter wsX0_isBetter) := goodIn_app (goodIn_of _ (by decide +kernel)) ggX0_bestByTrying_X0_isBetter
set_option maxRecDepth 20000 in
theorem ggX0_bestByTrying_X0_explainsAll : GoodIn wsX0_bestByTrying wsX0_explainsAll := goodIn_r _ [27, 1, 28, 19, 16, 20, 21, 22, 23, 29, 30, 31, 32, 33, 34, 35, 36, 37, 38, 39, 40, 41] (by decide +kernel) (by decide +kernel)
set_option maxRecDepth 20000 in
theorem gX0_bestByTrying_X0_explainsAll : GoodIn wsX0_bestByTrying (wsV RX0 40 RX0 yX0_explainsAll wsX0_explainsAll) := goodIn_app (goodIn_of _ (by decide +kernel)) ggX0_bestByTrying_X0_explainsAll
set_option maxRecDepth 20000 in
theorem ggX0_greedyCount_X0_greedyNext : GoodIn wsX0_greedyCount wsX0_greedyNext := goodIn_r _ [7, 8, 2, 1, 9, 10, 11, 12, 13, 14, 15, 16, 17, 18, 19, 20, 21, 22, 23, 24, 25, 26, 27, 28, 29, 30, 31, 32, 33, 34] (by decide +kernel) (by decide +kernel)
set_option maxRecDepth 20000 in
theorem gX0_greedyCount_X0_greedyNext : GoodIn wsX0_greedyCount (wsV RX0 44 RX0 yX0_greedyNext wsX0_greedyNext) := goodIn_app (goodIn_of _ (by decide +kernel)) ggX0_greedyCount_X0_greedyNext
set_option maxRecDepth 20000 in
theorem ggX0_greedyCount_X1_explainedBy : GoodIn wsX0_greedyCount wsX1_explainedBy := goodIn_r _ [19, 20, 13, 10, 14, 31, 32, 33, 34] (by decide +kernel) (by decide +kernel)
set_option maxRecDepth 20000 in
theorem gX0_greedyCount_X1_explainedBy : GoodIn wsX0_greedyCount (wsV RX0 47 RX1 yX1_explainedBy wsX1_explainedBy) := goodIn_app (goodIn_of _ (by decide +kernel)) ggX0_greedyCount_X1_explainedBy
set_option maxRecDepth 20000 in
theorem ggX0_greedyAt_X0_greedyNext : GoodIn wsX0_greedyAt wsX0_greedyNext := goodIn_r _ [7, 8, 2, 1, 9, 10, 11, 12, 13, 14, 15, 16, 17, 18, 19, 20, 21, 22, 23, 24, 25, 26, 27, 28, 29, 30, 31, 32, 33, 34] (by decide +kernel) (by decide +kernel)
set_option maxRecDepth 20000 in
theorem gX0_greedyAt_X0_greedyNext : GoodIn wsX0_greedyAt (wsV RX0 44 RX0 yX0_greedyNext wsX0_greedyNext) := goodIn_app (goodIn_of _ (by decide +kernel)) ggX0_greedyAt_X0_greedyNext
set_option maxRecDepth 20000 in
theorem ggX0_greedyAt_X1_explainedBy : GoodIn wsX0_greedyAt wsX1_explainedBy := goodIn_r _ [19, 20, 13, 10, 14, 31, 32, 33, 34] (by decide +kernel) (by decide +kernel)
set_option maxRecDepth 20000 in
theorem gX0_greedyAt_X1_explainedBy : GoodIn wsX0_greedyAt (wsV RX0 47 RX1 yX1_explainedBy wsX1_explainedBy) := goodIn_app (goodIn_of _ (by decide +kernel)) ggX0_greedyAt_X1_explainedBy
set_option maxRecDepth 20000 in
theorem ggX0_greedyNext_X4_has : GoodIn wsX0_greedyNext wsX4_has := goodIn_r _ [6, 7, 8, 5, 9] (by decide +kernel) (by decide +kernel)
set_option maxRecDepth 20000 in
theorem gX0_greedyNext_X4_has_n52 : GoodIn wsX0_greedyNext (wsX4_has) := ggX0_greedyNext_X4_has
set_option maxRecDepth 20000 in
theorem ggX0_greedyNext_X1_explainedBy : GoodIn wsX0_greedyNext wsX1_explainedBy := goodIn_r _ [14, 15, 8, 5, 9, 26, 27, 28, 29] (by decide +kernel) (by decide +kernel)
set_option maxRecDepth 20000 in
theorem gX0_greedyNext_X1_explainedBy : GoodIn wsX0_greedyNext (wsV RX0 47 RX1 yX1_explainedBy wsX1_explainedBy) := goodIn_app (goodIn_of _ (by decide +kernel)) ggX0_greedyNext_X1_explainedBy
set_option maxRecDepth 20000 in
theorem ggX0_greedyNext_J6_bitCount_0f7a4 : GoodIn wsX0_greedyNext wsJ6_bitCount_0f7a4 := goodIn_r _ [19, 20, 21, 22] (by decide +kernel) (by decide +kernel)
set_option maxRecDepth 20000 in
theorem gX0_greedyNext_J6_bitCount_0f7a4 : GoodIn wsX0_greedyNext (va_wsS RX0 30 yJ6_bitCount_0f7a4 wsJ6_bitCount_0f7a4) := goodIn_app (goodIn_of _ (by decide +kernel)) ggX0_greedyNext_J6_bitCount_0f7a4
set_option maxRecDepth 20000 in
theorem ggX0_search_X4_nodeAtPlace : GoodIn wsX0_search wsX4_nodeAtPlace := goodIn_r _ [4, 5, 6, 3, 7, 8, 9, 10] (by decide +kernel) (by decide +kernel)
set_option maxRecDepth 20000 in
theorem gX0_search_X4_nodeAtPlace_n55 : GoodIn wsX0_search (wsX4_nodeAtPlace) := ggX0_search_X4_nodeAtPlace
set_option maxRecDepth 20000 in
theorem ggX0_search_X0_isBetter : GoodIn wsX0_search wsX0_isBetter := goodIn_r _ [15, 16, 17, 18, 19, 20, 21, 22, 23, 2, 3, 4, 5, 6, 7, 8, 9, 10, 37, 38, 39] (by decide +kernel) (by decide +kernel)
set_option maxRecDepth 20000 in
theorem gX0_search_X0_isBetter : GoodIn wsX0_search (wsV RX0 36 RX0 yX0_isBetter wsX0_isBetter) := goodIn_app (goodIn_of _ (by decide +kernel)) ggX0_search_X0_isBetter
set_option maxRecDepth 20000 in
theorem ggX0_search_X1_explainersOf : GoodIn wsX0_search wsX1_explainersOf := goodIn_r _ [28, 29, 9, 3, 10, 40, 41, 42, 43] (by decide +kernel) (by decide +kernel)
set_option maxRecDepth 20000 in
theorem gX0_search_X1_explainersOf : GoodIn wsX0_search (wsV RX0 59 RX1 yX1_explainersOf wsX1_explainersOf) := goodIn_app (goodIn_of _ (by decide +kernel)) ggX0_search_X1_explainersOf
set_option maxRecDepth 20000 in
theorem ggX0_search_J6_bitCount_0f7a4 : GoodIn wsX0_search wsJ6_bitCount_0f7a4 := goodIn_r _ [20, 21, 22, 23] (by decide +kernel) (by decide +kernel)
set_option maxRecDepth 20000 in
theorem gX0_search_J6_bitCount_0f7a4 : GoodIn wsX0_search (va_wsS RX0 30 yJ6_bitCount_0f7a4 wsJ6_bitCount_0f7a4) := goodIn_app (goodIn_of _ (by decide +kernel)) ggX0_search_J6_bitCount_0f7a4
set_option maxRecDepth 20000 in
theorem ggX0_search_X4_has : GoodIn wsX0_search wsX4_has := goodIn_r _ [7, 8, 9, 3, 10] (by decide +kernel) (by decide +kernel)
set_option maxRecDepth 20000 in
theorem gX0_search_X4_has_n52 : GoodIn wsX0_search (wsX4_has) := ggX0_search_X4_has
set_option maxRecDepth 20000 in
theorem ggX0_search_X4_only : GoodIn wsX0_search wsX4_only := goodIn_r _ [10] (by decide +kernel) (by decide +kernel)
set_option maxRecDepth 20000 in
theorem gX0_search_X4_only_n62 : GoodIn wsX0_search (wsX4_only) := ggX0_search_X4_only
set_option maxRecDepth 20000 in
theorem ggX0_search_X1_explainedBy : GoodIn wsX0_search wsX1_explainedBy := goodIn_r _ [33, 34, 9, 3, 10, 40, 41, 42, 43] (by decide +kernel) (by decide +kernel)
set_option maxRecDepth 20000 in
theorem gX0_search_X1_explainedBy : GoodIn wsX0_search (wsV RX0 47 RX1 yX1_explainedBy wsX1_explainedBy) := goodIn_app (goodIn_of _ (by decide +kernel)) ggX0_search_X1_explainedBy
set_option maxRecDepth 20000 in
theorem ggX0_search_X0_search : GoodIn wsX0_search wsX0_search := goodIn_r _ [0, 1, 2, 3, 4, 5, 6, 7, 8, 9, 10, 11, 12, 13, 14, 15, 16, 17, 18, 19, 20, 21, 22, 23, 24, 25, 26, 27, 28, 29, 30, 31, 32, 33, 34, 35, 36, 37, 38, 39, 40, 41, 42, 43] (by decide +kernel) (by decide +kernel)
set_option maxRecDepth 20000 in
theorem gX0_search_X0_search : GoodIn wsX0_search (va_wsS RX0 26 yX0_search wsX0_search) := goodIn_app (goodIn_of _ (by decide +kernel)) ggX0_search_X0_search
set_option maxRecDepth 20000 in
theorem ggX0_isBetter_J6_bitCount_0f7a4 : GoodIn wsX0_isBetter wsJ6_bitCount_0f7a4 := goodIn_r _ [5, 6, 7, 8] (by decide +kernel) (by decide +kernel)
set_option maxRecDepth 20000 in
theorem gX0_isBetter_J6_bitCount_0f7a4 : GoodIn wsX0_isBetter (va_wsS RX0 30 yJ6_bitCount_0f7a4 wsJ6_bitCount_0f7a4) := goodIn_app (goodIn_of _ (by decide +kernel)) ggX0_isBetter_J6_bitCount_0f7a4
set_option maxRecDepth 20000 in
theorem ggX0_isBetter_X4_nodeAtPlace : GoodIn wsX0_isBetter wsX4_nodeAtPlace := goodIn_r _ [11, 12, 13, 10, 14, 15, 16, 17] (by decide +kernel) (by decide +kernel)
set_option maxRecDepth 20000 in
theorem gX0_isBetter_X4_nodeAtPlace_n55 : GoodIn wsX0_isBetter (wsX4_nodeAtPlace) := ggX0_isBetter_X4_nodeAtPlace
set_option maxRecDepth 20000 in
theorem ggX0_isBetter_X4_has : GoodIn wsX0_isBetter wsX4_has := goodIn_r _ [14, 15, 16, 10, 17] (by decide +kernel) (by decide +kernel)
set_option maxRecDepth 20000 in
theorem gX0_isBetter_X4_has_n52 : GoodIn wsX0_isBetter (wsX4_has) := ggX0_isBetter_X4_has
set_option maxRecDepth 20000 in
theorem ggX0_explainsAll_X4_has : GoodIn wsX0_explainsAll wsX4_has := goodIn_r _ [5, 6, 7, 4, 8] (by decide +kernel) (by decide +kernel)
set_option maxRecDepth 20000 in
theorem gX0_explainsAll_X4_has_n52 : GoodIn wsX0_explainsAll (wsX4_has) := ggX0_explainsAll_X4_has
set_option maxRecDepth 20000 in
theorem ggX0_explainsAll_X1_explainersOf : GoodIn wsX0_explainsAll wsX1_explainersOf := goodIn_r _ [13, 14, 7, 4, 8, 18, 19, 20, 21] (by decide +kernel) (by decide +kernel)
set_option maxRecDepth 20000 in
theorem gX0_explainsAll_X1_explainersOf : GoodIn wsX0_explainsAll (wsV RX0 59 RX1 yX1_explainersOf wsX1_explainersOf) := goodIn_app (goodIn_of _ (by decide +kernel)) ggX0_explainsAll_X1_explainersOf
set_option maxRecDepth 20000 in
theorem ggX0_plausibleOf_X1_users : GoodIn wsX0_plausibleOf wsX1_users := goodIn_r _ [5, 6, 10, 11, 12, 13] (by decide +kernel) (by decide +kernel)
set_option maxRecDepth 20000 in
theorem gX0_plausibleOf_X1_users : GoodIn wsX0_plausibleOf (wsV RX0 65 RX1 yX1_users wsX1_users) := goodIn_app (goodIn_of _ (by decide +kernel)) ggX0_plausibleOf_X1_users
set_option maxRecDepth 20000 in
theorem ggX0_plausibleOf_X4_only : GoodIn wsX0_plausibleOf wsX4_only := goodIn_r _ [9] (by decide +kernel) (by decide +kernel)
set_option maxRecDepth 20000 in
theorem gX0_plausibleOf_X4_only_n62 : GoodIn wsX0_plausibleOf (wsX4_only) := ggX0_plausibleOf_X4_only
set_option maxRecDepth 20000 in
theorem ggX1_explainersOf_X4_only : GoodIn wsX1_explainersOf wsX4_only := goodIn_r _ [4] (by decide +kernel) (by decide +kernel)
set_option maxRecDepth 20000 in
theorem gX1_explainersOf_X4_only_n24 : GoodIn wsX1_explainersOf (wsX4_only) := ggX1_explainersOf_X4_only
set_option maxRecDepth 20000 in
theorem ggX1_explainedBy_X4_only : GoodIn wsX1_explainedBy wsX4_only := goodIn_r _ [4] (by decide +kernel) (by decide +kernel)
set_option maxRecDepth 20000 in
theorem gX1_explainedBy_X4_only_n24 : GoodIn wsX1_explainedBy (wsX4_only) := ggX1_explainedBy_X4_only
set_option maxRecDepth 20000 in
theorem ggX1_link_X4_has : GoodIn wsX1_link wsX4_has := goodIn_r _ [5, 6, 7, 4, 8] (by decide +kernel) (by decide +kernel)
set_option maxRecDepth 20000 in
theorem gX1_link_X4_has_n28 : GoodIn wsX1_link (wsX4_has) := ggX1_link_X4_has
set_option maxRecDepth 20000 in
theorem ggX1_link_X4_only : GoodIn wsX1_link wsX4_only := goodIn_r _ [8] (by decide +kernel) (by decide +kernel)
set_option maxRecDepth 20000 in
theorem gX1_link_X4_only_n24 : GoodIn wsX1_link (wsX4_only) := ggX1_link_X4_only
set_option maxRecDepth 20000 in
theorem ggX1_link_X1_followAll : GoodIn wsX1_link wsX1_followAll := goodIn_r _ [13, 14, 1, 15, 2, 16, 17, 12, 18, 7, 4, 8, 19, 20, 21, 3, 5, 6, 22, 23, 24, 25] (by decide +kernel) (by decide +kernel)
set_option maxRecDepth 20000 in
theorem gX1_link_X1_followAll : GoodIn wsX1_link (wsV RX1 32 RX1 yX1_followAll wsX1_followAll) := goodIn_app (goodIn_of _ (by decide +kernel)) ggX1_link_X1_followAll
set_option maxRecDepth 20000 in
theorem ggX1_unlink_X4_has : GoodIn wsX1_unlink wsX4_has := goodIn_r _ [5, 6, 7, 4, 8] (by decide +kernel) (by decide +kernel)
set_option maxRecDepth 20000 in
theorem gX1_unlink_X4_has_n28 : GoodIn wsX1_unlink (wsX4_has) := ggX1_unlink_X4_has
set_option maxRecDepth 20000 in
theorem ggX1_unlink_X4_only : GoodIn wsX1_unlink wsX4_only := goodIn_r _ [8] (by decide +kernel) (by decide +kernel)
set_option maxRecDepth 20000 in
theorem gX1_unlink_X4_only_n24 : GoodIn wsX1_unlink (wsX4_only) := ggX1_unlink_X4_only
set_option maxRecDepth 20000 in
theorem ggX1_unlink_X1_followAll : GoodIn wsX1_unlink wsX1_followAll := goodIn_r _ [13, 14, 1, 15, 2, 16, 17, 12, 18, 7, 4, 8, 19, 20, 21, 3, 5, 6, 22, 23, 24, 25] (by decide +kernel) (by decide +kernel)
set_option maxRecDepth 20000 in
theorem gX1_unlink_X1_followAll : GoodIn wsX1_unlink (wsV RX1 32 RX1 yX1_followAll wsX1_followAll) := goodIn_app (goodIn_of _ (by decide +kernel)) ggX1_unlink_X1_followAll
set_option maxRecDepth 20000 in
theorem ggX1_longestWayDown_X4_only : GoodIn wsX1_longestWayDown wsX4_only := goodIn_r _ [4] (by decide +kernel) (by decide +kernel)
set_option maxRecDepth 20000 in
theorem gX1_longestWayDown_X4_only_n24 : GoodIn wsX1_longestWayDown (wsX4_only) := ggX1_longestWayDown_X4_only
set_option maxRecDepth 20000 in
theorem ggX1_longestWayDown_X1_step : GoodIn wsX1_longestWayDown wsX1_step := goodIn_r _ [8, 9, 3, 10, 11, 2, 4] (by decide +kernel) (by decide +kernel)
set_option maxRecDepth 20000 in
theorem gX1_longestWayDown_X1_step : GoodIn wsX1_longestWayDown (va_wsS RX1 35 yX1_step wsX1_step) := goodIn_app (goodIn_of _ (by decide +kernel)) ggX1_longestWayDown_X1_step
set_option maxRecDepth 20000 in
theorem ggX1_followAll_X1_follow : GoodIn wsX1_followAll wsX1_follow := goodIn_r _ [8, 9, 10, 11, 12, 13, 7, 14, 15, 16, 17] (by decide +kernel) (by decide +kernel)
set_option maxRecDepth 20000 in
theorem gX1_followAll_X1_follow : GoodIn wsX1_followAll (va_wsS RX1 39 yX1_follow wsX1_follow) := goodIn_app (goodIn_of _ (by decide +kernel)) ggX1_followAll_X1_follow
set_option maxRecDepth 20000 in
theorem ggX1_follow_X4_only : GoodIn wsX1_follow wsX4_only := goodIn_r _ [3] (by decide +kernel) (by decide +kernel)
set_option maxRecDepth 20000 in
theorem gX1_follow_X4_only_n24 : GoodIn wsX1_follow (wsX4_only) := ggX1_follow_X4_only
end
section
set_option maxRecDepth 20000 in
theorem ggX1_follow_X1_step : GoodIn wsX1_follow wsX1_step := goodIn_r _ [7, 8, 2, 9, 10, 1, 3] (by decide +kernel) (by decide +kernel)
set_option maxRecDepth 20000 in
theorem gX1_follow_X1_step : GoodIn wsX1_follow (va_wsS RX1 35 yX1_step wsX1_step) := goodIn_app (goodIn_of _ (by decide +kernel)) ggX1_follow_X1_step
set_option maxRecDepth 20000 in
theorem ggX1_step_X4_has : GoodIn wsX1_step wsX4_has := goodIn_r _ [3, 4, 5, 2, 6] (by decide +kernel) (by decide +kernel)
set_option maxRecDepth 20000 in
theorem gX1_step_X4_has_n28 : GoodIn wsX1_step (wsX4_has) := ggX1_step_X4_has
set_option maxRecDepth 20000 in
theorem ggX2_addRaise_X2_add : GoodIn wsX2_addRaise wsX2_add := goodIn_r _ [6, 7, 8, 9, 10, 11, 12, 13, 14, 15, 16, 17] (by decide +kernel) (by decide +kernel)
set_option maxRecDepth 20000 in
theorem gX2_addRaise_X2_add : GoodIn wsX2_addRaise (wsV RX2 31 RX2 yX2_add wsX2_add) := goodIn_app (goodIn_of _ (by decide +kernel)) ggX2_addRaise_X2_add
set_option maxRecDepth 20000 in
theorem ggX2_addClear_X2_add : GoodIn wsX2_addClear wsX2_add := goodIn_r _ [6, 7, 8, 9, 10, 11, 12, 13, 14, 15, 16, 17] (by decide +kernel) (by decide +kernel)
set_option maxRecDepth 20000 in
theorem gX2_addClear_X2_add : GoodIn wsX2_addClear (wsV RX2 31 RX2 yX2_add wsX2_add) := goodIn_app (goodIn_of _ (by decide +kernel)) ggX2_addClear_X2_add
set_option maxRecDepth 20000 in
theorem ggX3_sizeOf_X3_isUsed : GoodIn wsX3_sizeOf wsX3_isUsed := goodIn_r _ [6, 7, 8, 9, 10, 11] (by decide +kernel) (by decide +kernel)
set_option maxRecDepth 20000 in
theorem gX3_sizeOf_X3_isUsed : GoodIn wsX3_sizeOf (wsV RX3 22 RX3 yX3_isUsed wsX3_isUsed) := goodIn_app (goodIn_of _ (by decide +kernel)) ggX3_sizeOf_X3_isUsed
set_option maxRecDepth 20000 in
theorem ggX3_join_X3_unite : GoodIn wsX3_join wsX3_unite := goodIn_r _ [7, 1, 2, 8, 9, 10, 11, 12, 13, 14, 15, 16, 17, 18, 19, 20, 6, 21, 22, 23, 24, 25, 26, 27, 28, 29] (by decide +kernel) (by decide +kernel)
set_option maxRecDepth 20000 in
theorem gX3_join_X3_unite : GoodIn wsX3_join (wsV RX3 33 RX3 yX3_unite wsX3_unite) := goodIn_app (goodIn_of _ (by decide +kernel)) ggX3_join_X3_unite
set_option maxRecDepth 20000 in
theorem ggX3_leave_X3_sizeOf : GoodIn wsX3_leave wsX3_sizeOf := goodIn_r _ [6, 1, 7, 8, 9, 5, 10, 11, 12, 13, 14, 15] (by decide +kernel) (by decide +kernel)
set_option maxRecDepth 20000 in
theorem gX3_leave_X3_sizeOf : GoodIn wsX3_leave (wsV RX3 26 RX3 yX3_sizeOf wsX3_sizeOf) := goodIn_app (goodIn_of _ (by decide +kernel)) ggX3_leave_X3_sizeOf
set_option maxRecDepth 20000 in
theorem ggX3_unite_X4_has : GoodIn wsX3_unite wsX4_has := goodIn_r _ [9, 10, 11, 8, 12] (by decide +kernel) (by decide +kernel)
set_option maxRecDepth 20000 in
theorem gX3_unite_X4_has_n36 : GoodIn wsX3_unite (wsX4_has) := ggX3_unite_X4_has
set_option maxRecDepth 20000 in
theorem ggX3_unite_X3_merge : GoodIn wsX3_unite wsX3_merge := goodIn_r _ [17, 2, 18, 19, 20, 21, 16, 22, 1, 23, 24, 25] (by decide +kernel) (by decide +kernel)
set_option maxRecDepth 20000 in
theorem gX3_unite_X3_merge : GoodIn wsX3_unite (wsV RX3 46 RX3 yX3_merge wsX3_merge) := goodIn_app (goodIn_of _ (by decide +kernel)) ggX3_unite_X3_merge
set_option maxRecDepth 20000 in
theorem ggX3_merge_X3_isUsed : GoodIn wsX3_merge wsX3_isUsed := goodIn_r _ [7, 8, 2, 9, 10, 11] (by decide +kernel) (by decide +kernel)
set_option maxRecDepth 20000 in
theorem gX3_merge_X3_isUsed : GoodIn wsX3_merge (wsV RX3 22 RX3 yX3_isUsed wsX3_isUsed) := goodIn_app (goodIn_of _ (by decide +kernel)) ggX3_merge_X3_isUsed
set_option maxRecDepth 20000 in
theorem ggX4_init_X1_init : GoodIn wsX4_init wsX1_init := goodIn_r _ [19, 20, 2, 3, 21, 22, 23, 24, 25, 42, 43, 44, 45] (by decide +kernel) (by decide +kernel)
set_option maxRecDepth 20000 in
theorem gX4_init_X1_init_n9 : GoodIn wsX4_init (wsX1_init) := ggX4_init_X1_init
set_option maxRecDepth 20000 in
theorem ggX4_init_X2_init : GoodIn wsX4_init wsX2_init := goodIn_r _ [27, 28, 2, 3, 21, 29, 30, 31, 32, 33, 34, 51, 52, 53, 54, 55, 56] (by decide +kernel) (by decide +kernel)
set_option maxRecDepth 20000 in
theorem gX4_init_X2_init_n18 : GoodIn wsX4_init (wsX2_init) := ggX4_init_X2_init
set_option maxRecDepth 20000 in
theorem ggX4_init_X3_init : GoodIn wsX4_init wsX3_init := goodIn_r _ [37, 38, 2, 3, 21, 39, 40, 41, 57, 58, 59] (by decide +kernel) (by decide +kernel)
set_option maxRecDepth 20000 in
theorem gX4_init_X3_init : GoodIn wsX4_init (wsX3_init) := ggX4_init_X3_init
set_option maxRecDepth 20000 in
theorem ggX4_need_X4_checkNode : GoodIn wsX4_need wsX4_checkNode := goodIn_ca (goodIn_r _ [7, 8, 9] (by decide +kernel) (by decide +kernel)) (goodIn_sub (fun _ h => List.mem_cons_of_mem _ (List.mem_append_right _ h)) (by decide +kernel))
set_option maxRecDepth 20000 in
theorem gX4_need_X4_checkNode : GoodIn wsX4_need (va_wsS RX4 37 yX4_checkNode wsX4_checkNode) := goodIn_app (goodIn_of _ (by decide +kernel)) ggX4_need_X4_checkNode
set_option maxRecDepth 20000 in
theorem ggX4_need_X1_below : GoodIn wsX4_need wsX1_below := goodIn_r _ [14, 15, 44, 45, 46, 47] (by decide +kernel) (by decide +kernel)
set_option maxRecDepth 20000 in
theorem gX4_need_X1_below : GoodIn wsX4_need (wsV RX4 41 RX1 yX1_below wsX1_below) := goodIn_app (goodIn_of _ (by decide +kernel)) ggX4_need_X1_below
set_option maxRecDepth 20000 in
theorem ggX4_need_X4_has : GoodIn wsX4_need wsX4_has := goodIn_r _ [18, 19, 20, 6, 21] (by decide +kernel) (by decide +kernel)
set_option maxRecDepth 20000 in
theorem gX4_need_X4_has : GoodIn wsX4_need (va_wsS RX4 45 yX4_has wsX4_has) := goodIn_app (goodIn_of _ (by decide +kernel)) ggX4_need_X4_has
set_option maxRecDepth 20000 in
theorem ggX4_need_X1_link : GoodIn wsX4_need wsX1_link := goodIn_r _ [25, 26, 27, 17, 6, 18, 19, 20, 21, 28, 29, 30, 13, 31, 15, 32, 33, 34, 35, 36, 37, 38, 44, 45, 46, 47] (by decide +kernel) (by decide +kernel)
set_option maxRecDepth 20000 in
theorem gX4_need_X1_link : GoodIn wsX4_need (wsV RX4 56 RX1 yX1_link wsX1_link) := goodIn_app (goodIn_of _ (by decide +kernel)) ggX4_need_X1_link
set_option maxRecDepth 20000 in
theorem ggX4_release_X4_checkNode : GoodIn wsX4_release wsX4_checkNode := goodIn_ca (goodIn_r _ [5, 6, 7] (by decide +kernel) (by decide +kernel)) (goodIn_sub (fun _ h => List.mem_cons_of_mem _ (List.mem_append_right _ h)) (by decide +kernel))
set_option maxRecDepth 20000 in
theorem gX4_release_X4_checkNode : GoodIn wsX4_release (va_wsS RX4 37 yX4_checkNode wsX4_checkNode) := goodIn_app (goodIn_of _ (by decide +kernel)) ggX4_release_X4_checkNode
set_option maxRecDepth 20000 in
theorem ggX4_release_X1_unlink : GoodIn wsX4_release wsX1_unlink := goodIn_r _ [12, 13, 14, 15, 4, 16, 17, 18, 19, 20, 21, 22, 11, 23, 24, 25, 26, 27, 28, 29, 30, 31, 37, 38, 39, 40] (by decide +kernel) (by decide +kernel)
set_option maxRecDepth 20000 in
theorem gX4_release_X1_unlink : GoodIn wsX4_release (wsV RX4 59 RX1 yX1_unlink wsX1_unlink) := goodIn_app (goodIn_of _ (by decide +kernel)) ggX4_release_X1_unlink
set_option maxRecDepth 20000 in
theorem ggX4_needs_X4_checkNode : GoodIn wsX4_needs wsX4_checkNode := goodIn_ca (goodIn_r _ [5, 6, 7] (by decide +kernel) (by decide +kernel)) (goodIn_sub (fun _ h => List.mem_cons_of_mem _ (List.mem_append_right _ h)) (by decide +kernel))
set_option maxRecDepth 20000 in
theorem gX4_needs_X4_checkNode : GoodIn wsX4_needs (va_wsS RX4 37 yX4_checkNode wsX4_checkNode) := goodIn_app (goodIn_of _ (by decide +kernel)) ggX4_needs_X4_checkNode
set_option maxRecDepth 20000 in
theorem ggX4_needs_X1_needed : GoodIn wsX4_needs wsX1_needed := goodIn_r _ [12, 13, 25, 26, 27, 28] (by decide +kernel) (by decide +kernel)
set_option maxRecDepth 20000 in
theorem gX4_needs_X1_needed : GoodIn wsX4_needs (wsV RX4 62 RX1 yX1_needed wsX1_needed) := goodIn_app (goodIn_of _ (by decide +kernel)) ggX4_needs_X1_needed
set_option maxRecDepth 20000 in
theorem ggX4_needs_X4_has : GoodIn wsX4_needs wsX4_has := goodIn_r _ [16, 17, 18, 4, 19] (by decide +kernel) (by decide +kernel)
set_option maxRecDepth 20000 in
theorem gX4_needs_X4_has : GoodIn wsX4_needs (va_wsS RX4 45 yX4_has wsX4_has) := goodIn_app (goodIn_of _ (by decide +kernel)) ggX4_needs_X4_has
set_option maxRecDepth 20000 in
theorem ggX4_dependsOn_X4_checkNode : GoodIn wsX4_dependsOn wsX4_checkNode := goodIn_ca (goodIn_r _ [5, 6, 7] (by decide +kernel) (by decide +kernel)) (goodIn_sub (fun _ h => List.mem_cons_of_mem _ (List.mem_append_right _ h)) (by decide +kernel))
set_option maxRecDepth 20000 in
theorem gX4_dependsOn_X4_checkNode : GoodIn wsX4_dependsOn (va_wsS RX4 37 yX4_checkNode wsX4_checkNode) := goodIn_app (goodIn_of _ (by decide +kernel)) ggX4_dependsOn_X4_checkNode
set_option maxRecDepth 20000 in
theorem ggX4_dependsOn_X1_below : GoodIn wsX4_dependsOn wsX1_below := goodIn_r _ [12, 13, 25, 26, 27, 28] (by decide +kernel) (by decide +kernel)
set_option maxRecDepth 20000 in
theorem gX4_dependsOn_X1_below : GoodIn wsX4_dependsOn (wsV RX4 41 RX1 yX1_below wsX1_below) := goodIn_app (goodIn_of _ (by decide +kernel)) ggX4_dependsOn_X1_below
set_option maxRecDepth 20000 in
theorem ggX4_dependsOn_X4_has : GoodIn wsX4_dependsOn wsX4_has := goodIn_r _ [16, 17, 18, 4, 19] (by decide +kernel) (by decide +kernel)
set_option maxRecDepth 20000 in
theorem gX4_dependsOn_X4_has : GoodIn wsX4_dependsOn (va_wsS RX4 45 yX4_has wsX4_has) := goodIn_app (goodIn_of _ (by decide +kernel)) ggX4_dependsOn_X4_has
set_option maxRecDepth 20000 in
theorem ggX4_height_X4_checkNode : GoodIn wsX4_height wsX4_checkNode := goodIn_ca (goodIn_r _ [5, 6, 7] (by decide +kernel) (by decide +kernel)) (goodIn_sub (fun _ h => List.mem_cons_of_mem _ (List.mem_append_right _ h)) (by decide +kernel))
set_option maxRecDepth 20000 in
theorem gX4_height_X4_checkNode : GoodIn wsX4_height (va_wsS RX4 37 yX4_checkNode wsX4_checkNode) := goodIn_app (goodIn_of _ (by decide +kernel)) ggX4_height_X4_checkNode
set_option maxRecDepth 20000 in
theorem ggX4_height_X1_longestWayDown : GoodIn wsX4_height wsX1_longestWayDown := goodIn_r _ [12, 13, 14, 4, 15, 16, 17, 11, 18, 19, 20, 21, 27, 28, 29, 30] (by decide +kernel) (by decide +kernel)
set_option maxRecDepth 20000 in
theorem gX4_height_X1_longestWayDown : GoodIn wsX4_height (wsV RX4 65 RX1 yX1_longestWayDown wsX1_longestWayDown) := goodIn_app (goodIn_of _ (by decide +kernel)) ggX4_height_X1_longestWayDown
set_option maxRecDepth 20000 in
theorem ggX4_tick_X4_checkTicks : GoodIn wsX4_tick wsX4_checkTicks := goodIn_ca (goodIn_r _ [5, 6, 7] (by decide +kernel) (by decide +kernel)) (goodIn_sub (fun _ h => List.mem_cons_of_mem _ (List.mem_append_right _ h)) (by decide +kernel))
set_option maxRecDepth 20000 in
theorem gX4_tick_X4_checkTicks : GoodIn wsX4_tick (va_wsS RX4 68 yX4_checkTicks wsX4_checkTicks) := goodIn_app (goodIn_of _ (by decide +kernel)) ggX4_tick_X4_checkTicks
set_option maxRecDepth 20000 in
theorem ggX4_raise_X4_checkNode : GoodIn wsX4_raise wsX4_checkNode := goodIn_ca (goodIn_r _ [9, 10, 11] (by decide +kernel) (by decide +kernel)) (goodIn_sub (fun _ h => List.mem_cons_of_mem _ (List.mem_append_left _ (List.mem_append_right _ h))) (by decide +kernel))
set_option maxRecDepth 20000 in
theorem gX4_raise_X4_checkNode : GoodIn wsX4_raise (va_wsS RX4 37 yX4_checkNode wsX4_checkNode) := goodIn_app (goodIn_of _ (by decide +kernel)) ggX4_raise_X4_checkNode
set_option maxRecDepth 20000 in
theorem ggX4_raise_X4_has : GoodIn wsX4_raise wsX4_has := goodIn_r _ [14, 15, 16, 8, 17] (by decide +kernel) (by decide +kernel)
set_option maxRecDepth 20000 in
theorem gX4_raise_X4_has : GoodIn wsX4_raise (va_wsS RX4 45 yX4_has wsX4_has) := goodIn_app (goodIn_of _ (by decide +kernel)) ggX4_raise_X4_has
set_option maxRecDepth 20000 in
theorem ggX4_raise_X4_checkChange : GoodIn wsX4_raise wsX4_checkChange := goodIn_ca (goodIn_r _ [21, 22, 23, 2, 24, 25, 26, 27, 28, 29, 78, 79, 80, 81, 82, 83, 84, 85, 86, 87, 88] (by decide +kernel) (by decide +kernel)) (goodIn_sub (fun _ h => List.mem_cons_of_mem _ (List.mem_append_right _ h)) (by decide +kernel))
set_option maxRecDepth 20000 in
theorem gX4_raise_X4_checkChange : GoodIn wsX4_raise (wsV RX4 72 RX4 yX4_checkChange wsX4_checkChange) := goodIn_app (goodIn_of _ (by decide +kernel)) ggX4_raise_X4_checkChange
set_option maxRecDepth 20000 in
theorem ggX4_raise_X2_addRaise : GoodIn wsX4_raise wsX2_addRaise := goodIn_r _ [33, 34, 35, 36, 37, 27, 38, 39, 29, 40, 41, 42, 83, 84, 85, 86, 87, 88] (by decide +kernel) (by decide +kernel)
set_option maxRecDepth 20000 in
theorem gX4_raise_X2_addRaise : GoodIn wsX4_raise (wsV RX4 76 RX2 yX2_addRaise wsX2_addRaise) := goodIn_app (goodIn_of _ (by decide +kernel)) ggX4_raise_X2_addRaise
set_option maxRecDepth 20000 in
theorem ggX4_raise_X1_below : GoodIn wsX4_raise wsX1_below := goodIn_r _ [47, 48, 89, 90, 91, 92] (by decide +kernel) (by decide +kernel)
set_option maxRecDepth 20000 in
theorem gX4_raise_X1_below : GoodIn wsX4_raise (wsV RX4 41 RX1 yX1_below wsX1_below) := goodIn_app (goodIn_of _ (by decide +kernel)) ggX4_raise_X1_below
set_option maxRecDepth 20000 in
theorem ggX4_raise_X1_above : GoodIn wsX4_raise wsX1_above := goodIn_r _ [52, 53, 89, 90, 91, 92] (by decide +kernel) (by decide +kernel)
set_option maxRecDepth 20000 in
theorem gX4_raise_X1_above : GoodIn wsX4_raise (wsV RX4 79 RX1 yX1_above wsX1_above) := goodIn_app (goodIn_of _ (by decide +kernel)) ggX4_raise_X1_above
set_option maxRecDepth 20000 in
theorem ggX4_raise_X4_only : GoodIn wsX4_raise wsX4_only := goodIn_r _ [17] (by decide +kernel) (by decide +kernel)
set_option maxRecDepth 20000 in
theorem gX4_raise_X4_only : GoodIn wsX4_raise (va_wsS RX4 82 yX4_only wsX4_only) := goodIn_app (goodIn_of _ (by decide +kernel)) ggX4_raise_X4_only
set_option maxRecDepth 20000 in
theorem ggX4_raise_X3_join : GoodIn wsX4_raise wsX3_join := goodIn_r _ [58, 59, 60, 61, 62, 63, 57, 64, 65, 66, 67, 68, 13, 8, 14, 15, 16, 17, 69, 70, 71, 72, 73, 74, 75, 76, 77, 93, 94, 95] (by decide +kernel) (by decide +kernel)
set_option maxRecDepth 20000 in
theorem gX4_raise_X3_join : GoodIn wsX4_raise (wsV RX4 85 RX3 yX3_join wsX3_join) := goodIn_app (goodIn_of _ (by decide +kernel)) ggX4_raise_X3_join
set_option maxRecDepth 20000 in
theorem ggX4_clear_X4_checkNode : GoodIn wsX4_clear wsX4_checkNode := goodIn_ca (goodIn_r _ [8, 9, 10] (by decide +kernel) (by decide +kernel)) (goodIn_sub (fun _ h => List.mem_cons_of_mem _ (List.mem_append_left _ (List.mem_append_right _ h))) (by decide +kernel))
set_option maxRecDepth 20000 in
theorem gX4_clear_X4_checkNode : GoodIn wsX4_clear (va_wsS RX4 37 yX4_checkNode wsX4_checkNode) := goodIn_app (goodIn_of _ (by decide +kernel)) ggX4_clear_X4_checkNode
set_option maxRecDepth 20000 in
theorem ggX4_clear_X4_has : GoodIn wsX4_clear wsX4_has := goodIn_r _ [13, 14, 15, 7, 16] (by decide +kernel) (by decide +kernel)
set_option maxRecDepth 20000 in
theorem gX4_clear_X4_has : GoodIn wsX4_clear (va_wsS RX4 45 yX4_has wsX4_has) := goodIn_app (goodIn_of _ (by decide +kernel)) ggX4_clear_X4_has
set_option maxRecDepth 20000 in
theorem ggX4_clear_X4_checkChange : GoodIn wsX4_clear wsX4_checkChange := goodIn_ca (goodIn_r _ [20, 21, 22, 2, 23, 24, 25, 26, 27, 28, 58, 59, 60, 61, 62, 63, 64, 65, 66, 67, 68] (by decide +kernel) (by decide +kernel)) (goodIn_sub (fun _ h => List.mem_cons_of_mem _ (List.mem_append_right _ h)) (by decide +kernel))
set_option maxRecDepth 20000 in
theorem gX4_clear_X4_checkChange : GoodIn wsX4_clear (wsV RX4 72 RX4 yX4_checkChange wsX4_checkChange) := goodIn_app (goodIn_of _ (by decide +kernel)) ggX4_clear_X4_checkChange
set_option maxRecDepth 20000 in
theorem ggX4_clear_X2_addClear : GoodIn wsX4_clear wsX2_addClear := goodIn_r _ [32, 33, 34, 35, 36, 26, 37, 38, 28, 39, 40, 41, 63, 64, 65, 66, 67, 68] (by decide +kernel) (by decide +kernel)
end
section
set_option maxRecDepth 20000 in
theorem gX4_clear_X2_addClear : GoodIn wsX4_clear (wsV RX4 89 RX2 yX2_addClear wsX2_addClear) := goodIn_app (goodIn_of _ (by decide +kernel)) ggX4_clear_X2_addClear
set_option maxRecDepth 20000 in
theorem ggX4_clear_X4_only : GoodIn wsX4_clear wsX4_only := goodIn_r _ [16] (by decide +kernel) (by decide +kernel)
set_option maxRecDepth 20000 in
theorem gX4_clear_X4_only : GoodIn wsX4_clear (va_wsS RX4 82 yX4_only wsX4_only) := goodIn_app (goodIn_of _ (by decide +kernel)) ggX4_clear_X4_only
set_option maxRecDepth 20000 in
theorem ggX4_clear_X3_leave : GoodIn wsX4_clear wsX3_leave := goodIn_r _ [46, 47, 48, 49, 50, 45, 51, 52, 53, 54, 55, 56, 57, 69, 70, 71] (by decide +kernel) (by decide +kernel)
set_option maxRecDepth 20000 in
theorem gX4_clear_X3_leave : GoodIn wsX4_clear (wsV RX4 92 RX3 yX3_leave wsX3_leave) := goodIn_app (goodIn_of _ (by decide +kernel)) ggX4_clear_X3_leave
set_option maxRecDepth 20000 in
theorem ggX4_events_X2_count : GoodIn wsX4_events wsX2_count := goodIn_r _ [6, 7, 13, 14, 15, 16, 17, 18] (by decide +kernel) (by decide +kernel)
set_option maxRecDepth 20000 in
theorem gX4_events_X2_count : GoodIn wsX4_events (wsV RX4 103 RX2 yX2_count wsX2_count) := goodIn_app (goodIn_of _ (by decide +kernel)) ggX4_events_X2_count
set_option maxRecDepth 20000 in
theorem ggX4_ticketOf_X4_checkNode : GoodIn wsX4_ticketOf wsX4_checkNode := goodIn_ca (goodIn_r _ [5, 6, 7] (by decide +kernel) (by decide +kernel)) (goodIn_sub (fun _ h => List.mem_cons_of_mem _ (List.mem_append_right _ h)) (by decide +kernel))
set_option maxRecDepth 20000 in
theorem gX4_ticketOf_X4_checkNode : GoodIn wsX4_ticketOf (va_wsS RX4 37 yX4_checkNode wsX4_checkNode) := goodIn_app (goodIn_of _ (by decide +kernel)) ggX4_ticketOf_X4_checkNode
set_option maxRecDepth 20000 in
theorem ggX4_ticketOf_X3_numberOf : GoodIn wsX4_ticketOf wsX3_numberOf := goodIn_r _ [12, 13, 19, 20, 21] (by decide +kernel) (by decide +kernel)
set_option maxRecDepth 20000 in
theorem gX4_ticketOf_X3_numberOf : GoodIn wsX4_ticketOf (wsV RX4 125 RX3 yX3_numberOf wsX3_numberOf) := goodIn_app (goodIn_of _ (by decide +kernel)) ggX4_ticketOf_X3_numberOf
set_option maxRecDepth 20000 in
theorem ggX4_isPlausible_X4_checkNode : GoodIn wsX4_isPlausible wsX4_checkNode := goodIn_ca (goodIn_r _ [4, 5, 6] (by decide +kernel) (by decide +kernel)) (goodIn_sub (fun _ h => List.mem_cons_of_mem _ (List.mem_append_right _ h)) (by decide +kernel))
set_option maxRecDepth 20000 in
theorem gX4_isPlausible_X4_checkNode : GoodIn wsX4_isPlausible (va_wsS RX4 37 yX4_checkNode wsX4_checkNode) := goodIn_app (goodIn_of _ (by decide +kernel)) ggX4_isPlausible_X4_checkNode
set_option maxRecDepth 20000 in
theorem ggX4_isPlausible_X4_diagnoser : GoodIn wsX4_isPlausible wsX4_diagnoser := goodIn_r _ [10, 11, 12, 13, 14, 15, 16, 17, 18, 19, 20, 21, 22, 23, 24, 25, 26, 27, 28, 29, 30, 31, 32, 33, 34, 3, 35, 44, 45, 46, 47, 48, 49, 50, 51, 52, 53, 54, 55] (by decide +kernel) (by decide +kernel)
set_option maxRecDepth 20000 in
theorem gX4_isPlausible_X4_diagnoser : GoodIn wsX4_isPlausible (wsV RX4 137 RX4 yX4_diagnoser wsX4_diagnoser) := goodIn_app (goodIn_of _ (by decide +kernel)) ggX4_isPlausible_X4_diagnoser
set_option maxRecDepth 20000 in
theorem ggX4_isPlausible_X0_plausibleNodes : GoodIn wsX4_isPlausible wsX0_plausibleNodes := goodIn_r _ [39, 24, 44, 45, 46] (by decide +kernel) (by decide +kernel)
set_option maxRecDepth 20000 in
theorem gX4_isPlausible_X0_plausibleNodes : GoodIn wsX4_isPlausible (wsV RX4 141 RX0 yX0_plausibleNodes wsX0_plausibleNodes) := goodIn_app (goodIn_of _ (by decide +kernel)) ggX4_isPlausible_X0_plausibleNodes
set_option maxRecDepth 20000 in
theorem ggX4_isPlausible_X4_has : GoodIn wsX4_isPlausible wsX4_has := goodIn_r _ [42, 43, 34, 3, 35] (by decide +kernel) (by decide +kernel)
set_option maxRecDepth 20000 in
theorem gX4_isPlausible_X4_has : GoodIn wsX4_isPlausible (va_wsS RX4 45 yX4_has wsX4_has) := goodIn_app (goodIn_of _ (by decide +kernel)) ggX4_isPlausible_X4_has
set_option maxRecDepth 20000 in
theorem ggX4_causes_X4_diagnoser : GoodIn wsX4_causes wsX4_diagnoser := goodIn_r _ [5, 6, 7, 8, 9, 10, 11, 12, 13, 14, 15, 16, 17, 18, 19, 20, 21, 22, 23, 24, 25, 26, 27, 28, 29, 4, 30, 66, 67, 68, 69, 70, 71, 72, 73, 74, 75, 76, 77] (by decide +kernel) (by decide +kernel)
set_option maxRecDepth 20000 in
theorem gX4_causes_X4_diagnoser : GoodIn wsX4_causes (wsV RX4 137 RX4 yX4_diagnoser wsX4_diagnoser) := goodIn_app (goodIn_of _ (by decide +kernel)) ggX4_causes_X4_diagnoser
set_option maxRecDepth 20000 in
theorem ggX4_causes_X0_bestBySearch : GoodIn wsX4_causes wsX0_bestBySearch := goodIn_r _ [34, 18, 19, 35, 36, 8, 37, 17, 38, 4, 39, 40, 41, 42, 43, 29, 30, 44, 45, 46, 47, 48, 49, 50, 51, 52, 53, 54, 55, 56, 57, 26, 58, 59, 60, 61, 62, 63, 64, 66, 67, 68, 74, 75, 76, 77] (by decide +kernel) (by decide +kernel)
set_option maxRecDepth 20000 in
theorem gX4_causes_X0_bestBySearch : GoodIn wsX4_causes (wsV RX4 146 RX0 yX0_bestBySearch wsX0_bestBySearch) := goodIn_app (goodIn_of _ (by decide +kernel)) ggX4_causes_X0_bestBySearch
set_option maxRecDepth 20000 in
theorem ggX4_causes_J6_bitCount_0f7a4 : GoodIn wsX4_causes wsJ6_bitCount_0f7a4 := goodIn_r _ [51, 52, 53, 54] (by decide +kernel) (by decide +kernel)
set_option maxRecDepth 20000 in
theorem gX4_causes_J6_bitCount_0f7a4 : GoodIn wsX4_causes (va_wsS RX4 149 yJ6_bitCount_0f7a4 wsJ6_bitCount_0f7a4) := goodIn_app (goodIn_of _ (by decide +kernel)) ggX4_causes_J6_bitCount_0f7a4
set_option maxRecDepth 20000 in
theorem ggX4_cause_X4_diagnoser : GoodIn wsX4_cause wsX4_diagnoser := goodIn_r _ [5, 6, 7, 8, 9, 10, 11, 12, 13, 14, 15, 16, 17, 18, 19, 20, 21, 22, 23, 24, 25, 26, 27, 28, 29, 4, 30, 71, 72, 73, 74, 75, 76, 77, 78, 79, 80, 81, 82] (by decide +kernel) (by decide +kernel)
set_option maxRecDepth 20000 in
theorem gX4_cause_X4_diagnoser : GoodIn wsX4_cause (wsV RX4 137 RX4 yX4_diagnoser wsX4_diagnoser) := goodIn_app (goodIn_of _ (by decide +kernel)) ggX4_cause_X4_diagnoser
set_option maxRecDepth 20000 in
theorem ggX4_cause_X0_bestBySearch : GoodIn wsX4_cause wsX0_bestBySearch := goodIn_r _ [34, 18, 19, 35, 36, 8, 37, 17, 38, 4, 39, 40, 41, 42, 43, 29, 30, 44, 45, 46, 47, 48, 49, 50, 51, 52, 53, 54, 55, 56, 57, 26, 58, 59, 60, 61, 62, 63, 64, 71, 72, 73, 79, 80, 81, 82] (by decide +kernel) (by decide +kernel)
set_option maxRecDepth 20000 in
theorem gX4_cause_X0_bestBySearch : GoodIn wsX4_cause (wsV RX4 146 RX0 yX0_bestBySearch wsX0_bestBySearch) := goodIn_app (goodIn_of _ (by decide +kernel)) ggX4_cause_X0_bestBySearch
set_option maxRecDepth 20000 in
theorem ggX4_cause_X4_nodeThere : GoodIn wsX4_cause wsX4_nodeThere := goodIn_ca (goodIn_r _ [67, 68, 69, 70, 38, 4, 39, 40, 41, 42, 43, 29, 30] (by decide +kernel) (by decide +kernel)) (goodIn_sub (fun _ h => List.mem_cons_of_mem _ (List.mem_append_right _ h)) (by decide +kernel))
set_option maxRecDepth 20000 in
theorem gX4_cause_X4_nodeThere : GoodIn wsX4_cause (va_wsS RX4 154 yX4_nodeThere wsX4_nodeThere) := goodIn_app (goodIn_of _ (by decide +kernel)) ggX4_cause_X4_nodeThere
set_option maxRecDepth 20000 in
theorem ggX4_causeByTrying_X4_diagnoser : GoodIn wsX4_causeByTrying wsX4_diagnoser := goodIn_r _ [5, 6, 7, 8, 9, 10, 11, 12, 13, 14, 15, 16, 17, 18, 19, 20, 21, 22, 23, 24, 25, 26, 27, 28, 29, 4, 30, 67, 68, 69, 70, 71, 72, 73, 74, 75, 76, 77, 78] (by decide +kernel) (by decide +kernel)
set_option maxRecDepth 20000 in
theorem gX4_causeByTrying_X4_diagnoser : GoodIn wsX4_causeByTrying (wsV RX4 137 RX4 yX4_diagnoser wsX4_diagnoser) := goodIn_app (goodIn_of _ (by decide +kernel)) ggX4_causeByTrying_X4_diagnoser
set_option maxRecDepth 20000 in
theorem ggX4_causeByTrying_X0_bestByTrying : GoodIn wsX4_causeByTrying wsX0_bestByTrying := goodIn_r _ [34, 18, 19, 35, 36, 37, 38, 39, 40, 41, 42, 43, 44, 8, 45, 46, 4, 47, 48, 49, 50, 51, 29, 30, 52, 53, 54, 55, 17, 56, 57, 58, 26, 59, 60, 67, 68, 69, 75, 76, 77, 78] (by decide +kernel) (by decide +kernel)
set_option maxRecDepth 20000 in
theorem gX4_causeByTrying_X0_bestByTrying : GoodIn wsX4_causeByTrying (wsV RX4 157 RX0 yX0_bestByTrying wsX0_bestByTrying) := goodIn_app (goodIn_of _ (by decide +kernel)) ggX4_causeByTrying_X0_bestByTrying
set_option maxRecDepth 20000 in
theorem ggX4_causeByTrying_X4_nodeThere : GoodIn wsX4_causeByTrying wsX4_nodeThere := goodIn_ca (goodIn_r _ [63, 64, 65, 66, 46, 4, 47, 48, 49, 50, 51, 29, 30] (by decide +kernel) (by decide +kernel)) (goodIn_sub (fun _ h => List.mem_cons_of_mem _ (List.mem_append_right _ h)) (by decide +kernel))
set_option maxRecDepth 20000 in
theorem gX4_causeByTrying_X4_nodeThere : GoodIn wsX4_causeByTrying (va_wsS RX4 154 yX4_nodeThere wsX4_nodeThere) := goodIn_app (goodIn_of _ (by decide +kernel)) ggX4_causeByTrying_X4_nodeThere
set_option maxRecDepth 20000 in
theorem ggX4_greedyCauses_X4_diagnoser : GoodIn wsX4_greedyCauses wsX4_diagnoser := goodIn_r _ [5, 6, 7, 8, 9, 10, 11, 12, 13, 14, 15, 16, 17, 18, 19, 20, 21, 22, 23, 24, 25, 26, 27, 28, 29, 4, 30, 54, 55, 56, 57, 58, 59, 60, 61, 62, 63, 64, 65] (by decide +kernel) (by decide +kernel)
set_option maxRecDepth 20000 in
theorem gX4_greedyCauses_X4_diagnoser : GoodIn wsX4_greedyCauses (wsV RX4 137 RX4 yX4_diagnoser wsX4_diagnoser) := goodIn_app (goodIn_of _ (by decide +kernel)) ggX4_greedyCauses_X4_diagnoser
set_option maxRecDepth 20000 in
theorem ggX4_greedyCauses_X0_greedyCount : GoodIn wsX4_greedyCauses wsX0_greedyCount := goodIn_r _ [34, 18, 17, 35, 36, 37, 8, 38, 19, 39, 4, 40, 41, 29, 30, 42, 43, 44, 26, 45, 46, 47, 48, 49, 50, 51, 52, 53, 54, 55, 56, 62, 63, 64, 65] (by decide +kernel) (by decide +kernel)
set_option maxRecDepth 20000 in
theorem gX4_greedyCauses_X0_greedyCount : GoodIn wsX4_greedyCauses (wsV RX4 160 RX0 yX0_greedyCount wsX0_greedyCount) := goodIn_app (goodIn_of _ (by decide +kernel)) ggX4_greedyCauses_X0_greedyCount
set_option maxRecDepth 20000 in
theorem ggX4_greedyCause_X4_diagnoser : GoodIn wsX4_greedyCause wsX4_diagnoser := goodIn_r _ [7, 8, 9, 10, 11, 12, 13, 14, 15, 16, 17, 18, 19, 20, 21, 22, 23, 24, 25, 26, 27, 28, 29, 30, 31, 6, 32, 56, 57, 58, 59, 60, 61, 62, 63, 64, 65, 66, 67] (by decide +kernel) (by decide +kernel)
set_option maxRecDepth 20000 in
theorem gX4_greedyCause_X4_diagnoser : GoodIn wsX4_greedyCause (wsV RX4 137 RX4 yX4_diagnoser wsX4_diagnoser) := goodIn_app (goodIn_of _ (by decide +kernel)) ggX4_greedyCause_X4_diagnoser
set_option maxRecDepth 20000 in
theorem ggX4_greedyCause_X0_greedyAt : GoodIn wsX4_greedyCause wsX0_greedyAt := goodIn_r _ [36, 20, 19, 37, 38, 39, 10, 40, 21, 41, 6, 42, 43, 31, 32, 44, 45, 46, 28, 47, 48, 49, 50, 51, 52, 53, 54, 55, 56, 57, 58, 64, 65, 66, 67] (by decide +kernel) (by decide +kernel)
set_option maxRecDepth 20000 in
theorem gX4_greedyCause_X0_greedyAt : GoodIn wsX4_greedyCause (wsV RX4 163 RX0 yX0_greedyAt wsX0_greedyAt) := goodIn_app (goodIn_of _ (by decide +kernel)) ggX4_greedyCause_X0_greedyAt
set_option maxRecDepth 20000 in
theorem ggX4_causeOf_X4_checkNode : GoodIn wsX4_causeOf wsX4_checkNode := goodIn_ca (goodIn_r _ [6, 7, 8] (by decide +kernel) (by decide +kernel)) (goodIn_sub (fun _ h => List.mem_cons_of_mem _ (List.mem_append_right _ h)) (by decide +kernel))
set_option maxRecDepth 20000 in
theorem gX4_causeOf_X4_checkNode : GoodIn wsX4_causeOf (va_wsS RX4 37 yX4_checkNode wsX4_checkNode) := goodIn_app (goodIn_of _ (by decide +kernel)) ggX4_causeOf_X4_checkNode
set_option maxRecDepth 20000 in
theorem ggX4_causeOf_X4_has : GoodIn wsX4_causeOf wsX4_has := goodIn_r _ [11, 12, 13, 5, 14] (by decide +kernel) (by decide +kernel)
set_option maxRecDepth 20000 in
theorem gX4_causeOf_X4_has : GoodIn wsX4_causeOf (va_wsS RX4 45 yX4_has wsX4_has) := goodIn_app (goodIn_of _ (by decide +kernel)) ggX4_causeOf_X4_has
set_option maxRecDepth 20000 in
theorem ggX4_causeOf_X4_diagnoser : GoodIn wsX4_causeOf wsX4_diagnoser := goodIn_r _ [18, 19, 20, 21, 2, 1, 22, 23, 24, 25, 26, 27, 28, 29, 30, 31, 32, 33, 34, 35, 36, 37, 38, 39, 13, 5, 14, 77, 78, 79, 72, 73, 74, 75, 76, 80, 81, 82, 83] (by decide +kernel) (by decide +kernel)
set_option maxRecDepth 20000 in
theorem gX4_causeOf_X4_diagnoser : GoodIn wsX4_causeOf (wsV RX4 137 RX4 yX4_diagnoser wsX4_diagnoser) := goodIn_app (goodIn_of _ (by decide +kernel)) ggX4_causeOf_X4_diagnoser
set_option maxRecDepth 20000 in
theorem ggX4_causeOf_X0_bestBySearch : GoodIn wsX4_causeOf wsX0_bestBySearch := goodIn_r _ [43, 29, 30, 44, 45, 21, 46, 28, 47, 5, 48, 9, 10, 11, 12, 13, 14, 49, 50, 51, 52, 53, 54, 55, 56, 57, 58, 59, 60, 61, 62, 37, 63, 64, 65, 66, 67, 68, 69, 77, 78, 79, 80, 81, 82, 83] (by decide +kernel) (by decide +kernel)
set_option maxRecDepth 20000 in
theorem gX4_causeOf_X0_bestBySearch : GoodIn wsX4_causeOf (wsV RX4 146 RX0 yX0_bestBySearch wsX0_bestBySearch) := goodIn_app (goodIn_of _ (by decide +kernel)) ggX4_causeOf_X0_bestBySearch
set_option maxRecDepth 20000 in
theorem ggX4_causeOf_X1_explainersOf : GoodIn wsX4_causeOf wsX1_explainersOf := goodIn_r _ [63, 64, 13, 5, 14, 80, 81, 82, 83] (by decide +kernel) (by decide +kernel)
set_option maxRecDepth 20000 in
theorem gX4_causeOf_X1_explainersOf : GoodIn wsX4_causeOf (wsV RX4 171 RX1 yX1_explainersOf wsX1_explainersOf) := goodIn_app (goodIn_of _ (by decide +kernel)) ggX4_causeOf_X1_explainersOf
set_option maxRecDepth 20000 in
theorem ggX4_causeOf_X4_nodeAtPlace : GoodIn wsX4_causeOf wsX4_nodeAtPlace := goodIn_r _ [48, 9, 10, 5, 11, 12, 13, 14] (by decide +kernel) (by decide +kernel)
set_option maxRecDepth 20000 in
theorem gX4_causeOf_X4_nodeAtPlace : GoodIn wsX4_causeOf (va_wsS RX4 174 yX4_nodeAtPlace wsX4_nodeAtPlace) := goodIn_app (goodIn_of _ (by decide +kernel)) ggX4_causeOf_X4_nodeAtPlace
set_option maxRecDepth 20000 in
theorem ggX4_diagnoser_X0_init : GoodIn wsX4_diagnoser wsX0_init := goodIn_r _ [8, 9, 10, 11, 12, 13, 14, 15, 16, 3, 17, 18, 19, 20, 21, 22, 23, 24, 25, 26, 27, 28, 29, 35, 36, 37, 38] (by decide +kernel) (by decide +kernel)
set_option maxRecDepth 20000 in
theorem gX4_diagnoser_X0_init : GoodIn wsX4_diagnoser (wsX0_init) := ggX4_diagnoser_X0_init
set_option maxRecDepth 20000 in
theorem ggX4_checkChange_X2_isFull : GoodIn wsX4_checkChange wsX2_isFull := goodIn_r _ [8, 9, 15, 16, 17, 18, 19, 20] (by decide +kernel) (by decide +kernel)
set_option maxRecDepth 20000 in
theorem gX4_checkChange_X2_isFull : GoodIn wsX4_checkChange (wsV RX4 184 RX2 yX2_isFull wsX2_isFull) := goodIn_app (goodIn_of _ (by decide +kernel)) ggX4_checkChange_X2_isFull
set_option maxRecDepth 20000 in
theorem ggX4_nodeThere_X4_nodeAtPlace : GoodIn wsX4_nodeThere wsX4_nodeAtPlace := goodIn_r _ [6, 7, 8, 5, 9, 10, 11, 12] (by decide +kernel) (by decide +kernel)
set_option maxRecDepth 20000 in
theorem gX4_nodeThere_X4_nodeAtPlace : GoodIn wsX4_nodeThere (va_wsS RX4 174 yX4_nodeAtPlace wsX4_nodeAtPlace) := goodIn_app (goodIn_of _ (by decide +kernel)) ggX4_nodeThere_X4_nodeAtPlace
set_option maxRecDepth 20000 in
theorem ggX4_has_X4_only : GoodIn wsX4_has wsX4_only := goodIn_r _ [4] (by decide +kernel) (by decide +kernel)
set_option maxRecDepth 20000 in
theorem gX4_has_X4_only : GoodIn wsX4_has (va_wsS RX4 82 yX4_only wsX4_only) := goodIn_app (goodIn_of _ (by decide +kernel)) ggX4_has_X4_only
set_option maxRecDepth 20000 in
theorem ggX4_nodeAtPlace_X4_has : GoodIn wsX4_nodeAtPlace wsX4_has := goodIn_r _ [4, 5, 6, 3, 7] (by decide +kernel) (by decide +kernel)
set_option maxRecDepth 20000 in
theorem gX4_nodeAtPlace_X4_has : GoodIn wsX4_nodeAtPlace (va_wsS RX4 45 yX4_has wsX4_has) := goodIn_app (goodIn_of _ (by decide +kernel)) ggX4_nodeAtPlace_X4_has
set_option maxRecDepth 20000 in
theorem ggL_need_X4_need : GoodIn wsL_need wsX4_need := goodIn_ca (goodIn_ca (goodIn_r _ [7, 8, 9, 10, 11, 12, 6, 13, 14, 15, 16, 17, 18, 19, 20, 21, 22, 23, 24, 25, 26, 27, 28, 29, 30, 31, 32, 33, 34, 35, 36, 37, 38, 39, 40, 41, 42, 43, 44, 45, 46, 47, 48, 49, 50, 51, 52, 53] (by decide +kernel) (by decide +kernel)) (goodIn_sub (fun _ h => List.mem_cons_of_mem _ (List.mem_append_left _ (List.mem_append_right _ h))) (by decide +kernel))) (goodIn_sub (fun _ h => List.mem_cons_of_mem _ (List.mem_append_right _ h)) (by decide +kernel))
set_option maxRecDepth 20000 in
theorem gL_need_X4_need : GoodIn wsL_need (wsV RL 9 RX4 yX4_need wsX4_need) := goodIn_app (goodIn_of _ (by decide +kernel)) ggL_need_X4_need
set_option maxRecDepth 20000 in
theorem ggL_release_X4_release : GoodIn wsL_release wsX4_release := goodIn_ca (goodIn_r _ [6, 7, 8, 9, 5, 10, 11, 12, 13, 14, 15, 16, 17, 18, 19, 20, 21, 22, 23, 24, 25, 26, 27, 28, 29, 30, 31, 32, 33, 34, 35, 36, 37, 38, 39, 40, 41, 42, 43, 44, 45] (by decide +kernel) (by decide +kernel)) (goodIn_sub (fun _ h => List.mem_cons_of_mem _ (List.mem_append_right _ h)) (by decide +kernel))
set_option maxRecDepth 20000 in
theorem gL_release_X4_release : GoodIn wsL_release (wsV RL 19 RX4 yX4_release wsX4_release) := goodIn_app (goodIn_of _ (by decide +kernel)) ggL_release_X4_release
set_option maxRecDepth 20000 in
theorem ggL_needs_X4_needs : GoodIn wsL_needs wsX4_needs := goodIn_ca (goodIn_r _ [6, 7, 8, 9, 5, 10, 11, 12, 13, 14, 15, 16, 17, 18, 19, 20, 21, 22, 23, 24, 25, 26, 27, 28, 29, 30, 31, 32, 33] (by decide +kernel) (by decide +kernel)) (goodIn_sub (fun _ h => List.mem_cons_of_mem _ (List.mem_append_right _ h)) (by decide +kernel))
set_option maxRecDepth 20000 in
theorem gL_needs_X4_needs : GoodIn wsL_needs (wsV RL 22 RX4 yX4_needs wsX4_needs) := goodIn_app (goodIn_of _ (by decide +kernel)) ggL_needs_X4_needs
set_option maxRecDepth 20000 in
theorem ggL_depends_X4_dependsOn : GoodIn wsL_depends wsX4_dependsOn := goodIn_ca (goodIn_r _ [6, 7, 8, 9, 5, 10, 11, 12, 13, 14, 15, 16, 17, 18, 19, 20, 21, 22, 23, 24, 25, 26, 27, 28, 29, 30, 31, 32, 33] (by decide +kernel) (by decide +kernel)) (goodIn_sub (fun _ h => List.mem_cons_of_mem _ (List.mem_append_right _ h)) (by decide +kernel))
set_option maxRecDepth 20000 in
theorem gL_depends_X4_dependsOn : GoodIn wsL_depends (wsV RL 25 RX4 yX4_dependsOn wsX4_dependsOn) := goodIn_app (goodIn_of _ (by decide +kernel)) ggL_depends_X4_dependsOn
set_option maxRecDepth 20000 in
theorem ggL_height_X4_height : GoodIn wsL_height wsX4_height := goodIn_ca (goodIn_r _ [6, 7, 8, 9, 5, 10, 11, 12, 13, 14, 15, 16, 17, 18, 19, 20, 21, 22, 23, 24, 25, 26, 27, 28, 29, 30, 31, 32, 33, 34, 35] (by decide +kernel) (by decide +kernel)) (goodIn_sub (fun _ h => List.mem_cons_of_mem _ (List.mem_append_right _ h)) (by decide +kernel))
set_option maxRecDepth 20000 in
theorem gL_height_X4_height : GoodIn wsL_height (wsV RL 28 RX4 yX4_height wsX4_height) := goodIn_app (goodIn_of _ (by decide +kernel)) ggL_height_X4_height
set_option maxRecDepth 20000 in
theorem ggL_tick_X4_tick : GoodIn wsL_tick wsX4_tick := goodIn_ca (goodIn_r _ [6, 7, 8, 9, 5, 10, 11, 12, 13, 14, 15, 16, 17] (by decide +kernel) (by decide +kernel)) (goodIn_sub (fun _ h => List.mem_cons_of_mem _ (List.mem_append_right _ h)) (by decide +kernel))
end
section
set_option maxRecDepth 20000 in
theorem gL_tick_X4_tick : GoodIn wsL_tick (wsV RL 32 RX4 yX4_tick wsX4_tick) := goodIn_app (goodIn_of _ (by decide +kernel)) ggL_tick_X4_tick
set_option maxRecDepth 20000 in
theorem ggL_raise_X4_raise : GoodIn wsL_raise wsX4_raise := goodIn_ca (goodIn_ca (goodIn_r _ [7, 8, 9, 10, 11, 12, 13, 14, 6, 15, 16, 17, 18, 19, 20, 21, 22, 23, 24, 25, 26, 27, 28, 29, 30, 31, 32, 33, 34, 35, 36, 37, 38, 39, 40, 41, 42, 43, 44, 45, 46, 47, 48, 49, 50, 51, 52, 53, 54, 55, 56, 57, 58, 59, 60, 61, 62, 63, 64, 65, 66, 67, 68, 69, 70, 71, 72, 73, 74, 75, 76, 77, 78, 79, 80, 81, 82, 83, 84, 85, 86, 87, 88, 89, 90, 91, 92, 93, 94, 95, 96, 97, 98, 99, 100, 101] (by decide +kernel) (by decide +kernel)) (goodIn_sub (fun _ h => List.mem_cons_of_mem _ (List.mem_append_left _ (List.mem_append_right _ h))) (by decide +kernel))) (goodIn_sub (fun _ h => List.mem_cons_of_mem _ (List.mem_append_right _ h)) (by decide +kernel))
set_option maxRecDepth 20000 in
theorem gL_raise_X4_raise : GoodIn wsL_raise (wsV RL 35 RX4 yX4_raise wsX4_raise) := goodIn_app (goodIn_of _ (by decide +kernel)) ggL_raise_X4_raise
set_option maxRecDepth 20000 in
theorem ggL_clear_X4_clear : GoodIn wsL_clear wsX4_clear := goodIn_ca (goodIn_ca (goodIn_r _ [7, 8, 9, 10, 11, 12, 13, 6, 14, 15, 16, 17, 18, 19, 20, 21, 22, 23, 24, 25, 26, 27, 28, 29, 30, 31, 32, 33, 34, 35, 36, 37, 38, 39, 40, 41, 42, 43, 44, 45, 46, 47, 48, 49, 50, 51, 52, 53, 54, 55, 56, 57, 58, 59, 60, 61, 62, 63, 64, 65, 66, 67, 68, 69, 70, 71, 72, 73, 74, 75, 76, 77] (by decide +kernel) (by decide +kernel)) (goodIn_sub (fun _ h => List.mem_cons_of_mem _ (List.mem_append_left _ (List.mem_append_right _ h))) (by decide +kernel))) (goodIn_sub (fun _ h => List.mem_cons_of_mem _ (List.mem_append_right _ h)) (by decide +kernel))
set_option maxRecDepth 20000 in
theorem gL_clear_X4_clear : GoodIn wsL_clear (wsV RL 40 RX4 yX4_clear wsX4_clear) := goodIn_app (goodIn_of _ (by decide +kernel)) ggL_clear_X4_clear
set_option maxRecDepth 20000 in
theorem ggL_ticket_X4_ticketOf : GoodIn wsL_ticket wsX4_ticketOf := goodIn_ca (goodIn_r _ [6, 7, 8, 9, 5, 10, 11, 12, 13, 14, 15, 16, 17, 18, 19, 20, 21, 22, 23, 24, 25, 26] (by decide +kernel) (by decide +kernel)) (goodIn_sub (fun _ h => List.mem_cons_of_mem _ (List.mem_append_right _ h)) (by decide +kernel))
set_option maxRecDepth 20000 in
theorem gL_ticket_X4_ticketOf : GoodIn wsL_ticket (wsV RL 43 RX4 yX4_ticketOf wsX4_ticketOf) := goodIn_app (goodIn_of _ (by decide +kernel)) ggL_ticket_X4_ticketOf
set_option maxRecDepth 20000 in
theorem ggL_plausible_X4_isPlausible : GoodIn wsL_plausible wsX4_isPlausible := goodIn_ca (goodIn_r _ [6, 7, 8, 5, 9, 10, 11, 12, 13, 14, 15, 16, 17, 18, 19, 20, 21, 22, 23, 24, 25, 26, 27, 28, 29, 30, 31, 32, 33, 34, 35, 36, 37, 38, 39, 40, 41, 42, 43, 44, 45, 46, 47, 48, 49, 50, 51, 52, 53, 54, 55, 56, 57, 58, 59, 60] (by decide +kernel) (by decide +kernel)) (goodIn_sub (fun _ h => List.mem_cons_of_mem _ (List.mem_append_right _ h)) (by decide +kernel))
set_option maxRecDepth 20000 in
theorem gL_plausible_X4_isPlausible : GoodIn wsL_plausible (wsV RL 46 RX4 yX4_isPlausible wsX4_isPlausible) := goodIn_app (goodIn_of _ (by decide +kernel)) ggL_plausible_X4_isPlausible
set_option maxRecDepth 20000 in
theorem ggL_cause_X4_cause : GoodIn wsL_cause wsX4_cause := goodIn_ca (goodIn_r _ [6, 7, 8, 9, 5, 10, 11, 12, 13, 14, 15, 16, 17, 18, 19, 20, 21, 22, 23, 24, 25, 26, 27, 28, 29, 30, 31, 32, 33, 34, 35, 36, 37, 38, 39, 40, 41, 42, 43, 44, 45, 46, 47, 48, 49, 50, 51, 52, 53, 54, 55, 56, 57, 58, 59, 60, 61, 62, 63, 64, 65, 66, 67, 68, 69, 70, 71, 72, 73, 74, 75, 76, 77, 78, 79, 80, 81, 82, 83, 84, 85, 86, 87] (by decide +kernel) (by decide +kernel)) (goodIn_sub (fun _ h => List.mem_cons_of_mem _ (List.mem_append_right _ h)) (by decide +kernel))
set_option maxRecDepth 20000 in
theorem gL_cause_X4_cause : GoodIn wsL_cause (wsV RL 50 RX4 yX4_cause wsX4_cause) := goodIn_app (goodIn_of _ (by decide +kernel)) ggL_cause_X4_cause
set_option maxRecDepth 20000 in
theorem ggL_tried_X4_causeByTrying : GoodIn wsL_tried wsX4_causeByTrying := goodIn_ca (goodIn_r _ [6, 7, 8, 9, 5, 10, 11, 12, 13, 14, 15, 16, 17, 18, 19, 20, 21, 22, 23, 24, 25, 26, 27, 28, 29, 30, 31, 32, 33, 34, 35, 36, 37, 38, 39, 40, 41, 42, 43, 44, 45, 46, 47, 48, 49, 50, 51, 52, 53, 54, 55, 56, 57, 58, 59, 60, 61, 62, 63, 64, 65, 66, 67, 68, 69, 70, 71, 72, 73, 74, 75, 76, 77, 78, 79, 80, 81, 82, 83] (by decide +kernel) (by decide +kernel)) (goodIn_sub (fun _ h => List.mem_cons_of_mem _ (List.mem_append_right _ h)) (by decide +kernel))
set_option maxRecDepth 20000 in
theorem gL_tried_X4_causeByTrying : GoodIn wsL_tried (wsV RL 53 RX4 yX4_causeByTrying wsX4_causeByTrying) := goodIn_app (goodIn_of _ (by decide +kernel)) ggL_tried_X4_causeByTrying
set_option maxRecDepth 20000 in
theorem ggL_greedy_X4_greedyCause : GoodIn wsL_greedy wsX4_greedyCause := goodIn_ca (goodIn_r _ [6, 7, 8, 9, 10, 11, 5, 12, 13, 14, 15, 16, 17, 18, 19, 20, 21, 22, 23, 24, 25, 26, 27, 28, 29, 30, 31, 32, 33, 34, 35, 36, 37, 38, 39, 40, 41, 42, 43, 44, 45, 46, 47, 48, 49, 50, 51, 52, 53, 54, 55, 56, 57, 58, 59, 60, 61, 62, 63, 64, 65, 66, 67, 68, 69, 70, 71, 72] (by decide +kernel) (by decide +kernel)) (goodIn_sub (fun _ h => List.mem_cons_of_mem _ (List.mem_append_right _ h)) (by decide +kernel))
set_option maxRecDepth 20000 in
theorem gL_greedy_X4_greedyCause : GoodIn wsL_greedy (wsV RL 56 RX4 yX4_greedyCause wsX4_greedyCause) := goodIn_app (goodIn_of _ (by decide +kernel)) ggL_greedy_X4_greedyCause
set_option maxRecDepth 20000 in
theorem ggL_causeOf_X4_causeOf : GoodIn wsL_causeOf wsX4_causeOf := goodIn_ca (goodIn_r _ [6, 7, 8, 9, 10, 5, 11, 12, 13, 14, 15, 16, 17, 18, 19, 20, 21, 22, 23, 24, 25, 26, 27, 28, 29, 30, 31, 32, 33, 34, 35, 36, 37, 38, 39, 40, 41, 42, 43, 44, 45, 46, 47, 48, 49, 50, 51, 52, 53, 54, 55, 56, 57, 58, 59, 60, 61, 62, 63, 64, 65, 66, 67, 68, 69, 70, 71, 72, 73, 74, 75, 76, 77, 78, 79, 80, 81, 82, 83, 84, 85, 86, 87, 88] (by decide +kernel) (by decide +kernel)) (goodIn_sub (fun _ h => List.mem_cons_of_mem _ (List.mem_append_right _ h)) (by decide +kernel))
set_option maxRecDepth 20000 in
theorem gL_causeOf_X4_causeOf : GoodIn wsL_causeOf (wsV RL 59 RX4 yX4_causeOf wsX4_causeOf) := goodIn_app (goodIn_of _ (by decide +kernel)) ggL_causeOf_X4_causeOf
set_option maxRecDepth 20000 in
theorem ggL_hangs_L_needs : GoodIn wsL_hangs wsL_needs := goodIn_ca (goodIn_r _ [4, 5, 6, 7, 8, 9, 10, 11, 12, 13, 14, 15, 16, 17, 18, 19, 20, 21, 22, 23, 24, 25, 26, 27, 28, 55, 56, 57, 58, 59, 60, 61, 62, 63] (by decide +kernel) (by decide +kernel)) (goodIn_sub (fun _ h => List.mem_cons_of_mem _ (List.mem_append_right _ h)) (by decide +kernel))
set_option maxRecDepth 20000 in
theorem gL_hangs_L_needs : GoodIn wsL_hangs (va_wsS RL 62 yL_needs wsL_needs) := goodIn_app (goodIn_of _ (by decide +kernel)) ggL_hangs_L_needs
set_option maxRecDepth 20000 in
theorem ggL_hangs_L_height : GoodIn wsL_hangs wsL_height := goodIn_ca (goodIn_r _ [31, 5, 32, 33, 34, 9, 35, 11, 12, 13, 14, 15, 16, 36, 37, 38, 20, 39, 22, 27, 28, 40, 41, 42, 24, 25, 26, 55, 56, 57, 58, 59, 60, 61, 62, 63] (by decide +kernel) (by decide +kernel)) (goodIn_sub (fun _ h => List.mem_cons_of_mem _ (List.mem_append_right _ h)) (by decide +kernel))
set_option maxRecDepth 20000 in
theorem gL_hangs_L_height : GoodIn wsL_hangs (va_wsS RL 67 yL_height wsL_height) := goodIn_app (goodIn_of _ (by decide +kernel)) ggL_hangs_L_height
set_option maxRecDepth 20000 in
theorem ggL_hangs_L_depends : GoodIn wsL_hangs wsL_depends := goodIn_ca (goodIn_r _ [45, 5, 46, 47, 48, 9, 49, 11, 12, 13, 14, 15, 16, 50, 51, 52, 20, 53, 54, 23, 24, 25, 26, 27, 28, 55, 56, 57, 58, 59, 60, 61, 62, 63] (by decide +kernel) (by decide +kernel)) (goodIn_sub (fun _ h => List.mem_cons_of_mem _ (List.mem_append_right _ h)) (by decide +kernel))
set_option maxRecDepth 20000 in
theorem gL_hangs_L_depends : GoodIn wsL_hangs (va_wsS RL 70 yL_depends wsL_depends) := goodIn_app (goodIn_of _ (by decide +kernel)) ggL_hangs_L_depends
set_option maxRecDepth 20000 in
theorem ggL_isBest_L_all : GoodIn wsL_isBest wsL_all := goodIn_r _ [4] (by decide +kernel) (by decide +kernel)
set_option maxRecDepth 20000 in
theorem gL_isBest_L_all : GoodIn wsL_isBest (va_wsS RL 73 yL_all wsL_all) := goodIn_app (goodIn_of _ (by decide +kernel)) ggL_isBest_L_all
set_option maxRecDepth 20000 in
theorem ggL_isBest_L_size : GoodIn wsL_isBest wsL_size := goodIn_r _ [7] (by decide +kernel) (by decide +kernel)
set_option maxRecDepth 20000 in
theorem gL_isBest_L_size : GoodIn wsL_isBest (va_wsS RL 77 yL_size wsL_size) := goodIn_app (goodIn_of _ (by decide +kernel)) ggL_isBest_L_size
set_option maxRecDepth 20000 in
theorem ggL_causes_L_ticket : GoodIn wsL_causes wsL_ticket := goodIn_ca (goodIn_r _ [5, 6, 7, 8, 9, 10, 11, 12, 13, 14, 15, 16, 17, 18, 19, 20, 21, 22, 23, 192, 193, 194, 195, 196, 197, 198, 199] (by decide +kernel) (by decide +kernel)) (goodIn_sub (fun _ h => List.mem_cons_of_mem _ (List.mem_append_right _ h)) (by decide +kernel))
set_option maxRecDepth 20000 in
theorem gL_causes_L_ticket : GoodIn wsL_causes (va_wsS RL 80 yL_ticket wsL_ticket) := goodIn_app (goodIn_of _ (by decide +kernel)) ggL_causes_L_ticket
set_option maxRecDepth 20000 in
theorem ggL_causes_L_depends : GoodIn wsL_causes wsL_depends := goodIn_ca (goodIn_r _ [26, 6, 27, 28, 29, 10, 30, 31, 13, 14, 15, 16, 17, 32, 33, 34, 35, 36, 37, 38, 39, 40, 41, 42, 43, 192, 193, 194, 195, 196, 200, 201, 202, 203] (by decide +kernel) (by decide +kernel)) (goodIn_sub (fun _ h => List.mem_cons_of_mem _ (List.mem_append_right _ h)) (by decide +kernel))
set_option maxRecDepth 20000 in
theorem gL_causes_L_depends : GoodIn wsL_causes (va_wsS RL 70 yL_depends wsL_depends) := goodIn_app (goodIn_of _ (by decide +kernel)) ggL_causes_L_depends
set_option maxRecDepth 20000 in
theorem ggL_causes_L_needs : GoodIn wsL_causes wsL_needs := goodIn_ca (goodIn_r _ [46, 6, 47, 48, 49, 10, 50, 31, 13, 14, 15, 16, 17, 51, 52, 53, 35, 54, 55, 38, 39, 40, 41, 42, 43, 192, 193, 194, 195, 196, 200, 201, 202, 203] (by decide +kernel) (by decide +kernel)) (goodIn_sub (fun _ h => List.mem_cons_of_mem _ (List.mem_append_right _ h)) (by decide +kernel))
set_option maxRecDepth 20000 in
theorem gL_causes_L_needs : GoodIn wsL_causes (va_wsS RL 62 yL_needs wsL_needs) := goodIn_app (goodIn_of _ (by decide +kernel)) ggL_causes_L_needs
set_option maxRecDepth 20000 in
theorem ggL_causes_L_plausible : GoodIn wsL_causes wsL_plausible := goodIn_ca (goodIn_r _ [58, 6, 59, 60, 61, 10, 62, 13, 14, 15, 16, 17, 63, 64, 65, 66, 67, 68, 69, 31, 70, 71, 72, 73, 74, 75, 76, 77, 78, 79, 80, 81, 82, 83, 84, 85, 35, 86, 87, 42, 43, 88, 89, 90, 91, 38, 39, 40, 41, 204, 205, 206, 192, 193, 194, 195, 196, 200, 201, 202, 203] (by decide +kernel) (by decide +kernel)) (goodIn_sub (fun _ h => List.mem_cons_of_mem _ (List.mem_append_right _ h)) (by decide +kernel))
set_option maxRecDepth 20000 in
theorem gL_causes_L_plausible : GoodIn wsL_causes (va_wsS RL 83 yL_plausible wsL_plausible) := goodIn_app (goodIn_of _ (by decide +kernel)) ggL_causes_L_plausible
set_option maxRecDepth 20000 in
theorem ggL_causes_X4_causes : GoodIn wsL_causes wsX4_causes := goodIn_r _ [95, 63, 64, 65, 10, 66, 67, 68, 69, 31, 70, 71, 72, 73, 74, 75, 76, 77, 78, 79, 80, 81, 82, 83, 84, 85, 35, 86, 87, 42, 43, 96, 97, 98, 99, 100, 101, 102, 103, 104, 38, 39, 40, 41, 105, 106, 107, 108, 109, 110, 111, 112, 113, 114, 115, 116, 117, 118, 119, 37, 120, 121, 122, 123, 124, 125, 204, 205, 206, 192, 193, 194, 195, 196, 200, 201, 202, 203] (by decide +kernel) (by decide +kernel)
set_option maxRecDepth 20000 in
theorem gL_causes_X4_causes : GoodIn wsL_causes (wsV RL 86 RX4 yX4_causes wsX4_causes) := goodIn_app (goodIn_of _ (by decide +kernel)) ggL_causes_X4_causes
set_option maxRecDepth 20000 in
theorem ggL_causes_L_cause : GoodIn wsL_causes wsL_cause := goodIn_ca (goodIn_r _ [128, 6, 129, 130, 131, 10, 132, 63, 64, 65, 66, 67, 68, 69, 31, 70, 71, 72, 73, 74, 75, 76, 77, 78, 79, 80, 81, 82, 83, 84, 85, 35, 86, 87, 42, 43, 96, 97, 98, 99, 100, 101, 102, 103, 104, 38, 39, 40, 41, 105, 106, 107, 108, 109, 110, 111, 112, 113, 114, 115, 116, 117, 118, 119, 37, 120, 121, 122, 123, 124, 133, 134, 135, 16, 17, 136, 204, 205, 206, 192, 193, 194, 195, 196, 200, 201, 202, 203] (by decide +kernel) (by decide +kernel)) (goodIn_sub (fun _ h => List.mem_cons_of_mem _ (List.mem_append_right _ h)) (by decide +kernel))
set_option maxRecDepth 20000 in
theorem gL_causes_L_cause : GoodIn wsL_causes (va_wsS RL 90 yL_cause wsL_cause) := goodIn_app (goodIn_of _ (by decide +kernel)) ggL_causes_L_cause
set_option maxRecDepth 20000 in
theorem ggL_causes_L_tried : GoodIn wsL_causes wsL_tried := goodIn_ca (goodIn_r _ [139, 6, 140, 141, 142, 10, 143, 63, 64, 65, 66, 67, 68, 69, 31, 70, 71, 72, 73, 74, 75, 76, 77, 78, 79, 80, 81, 82, 83, 84, 85, 35, 86, 87, 42, 43, 144, 145, 146, 147, 109, 110, 111, 112, 113, 114, 115, 105, 106, 107, 108, 103, 104, 38, 39, 40, 41, 148, 149, 150, 151, 116, 117, 118, 119, 37, 133, 134, 135, 16, 17, 136, 204, 205, 206, 192, 193, 194, 195, 196, 200, 201, 202, 203] (by decide +kernel) (by decide +kernel)) (goodIn_sub (fun _ h => List.mem_cons_of_mem _ (List.mem_append_right _ h)) (by decide +kernel))
set_option maxRecDepth 20000 in
theorem gL_causes_L_tried : GoodIn wsL_causes (va_wsS RL 92 yL_tried wsL_tried) := goodIn_app (goodIn_of _ (by decide +kernel)) ggL_causes_L_tried
set_option maxRecDepth 20000 in
theorem ggL_causes_L_isBest : GoodIn wsL_causes wsL_isBest := goodIn_r _ [154, 155, 156, 4, 157, 158, 159, 160] (by decide +kernel) (by decide +kernel)
set_option maxRecDepth 20000 in
theorem gL_causes_L_isBest : GoodIn wsL_causes (va_wsS RL 95 yL_isBest wsL_isBest) := goodIn_app (goodIn_of _ (by decide +kernel)) ggL_causes_L_isBest
set_option maxRecDepth 20000 in
theorem ggL_causes_X4_greedyCauses : GoodIn wsL_causes wsX4_greedyCauses := goodIn_r _ [164, 63, 64, 65, 10, 66, 67, 68, 69, 31, 70, 71, 72, 73, 74, 75, 76, 77, 78, 79, 80, 81, 82, 83, 84, 85, 35, 86, 87, 42, 43, 165, 166, 167, 168, 169, 170, 171, 172, 39, 40, 41, 120, 121, 122, 123, 124, 109, 110, 111, 112, 113, 114, 115, 204, 205, 206, 192, 193, 194, 195, 196, 200, 201, 202, 203] (by decide +kernel) (by decide +kernel)
set_option maxRecDepth 20000 in
theorem gL_causes_X4_greedyCauses : GoodIn wsL_causes (wsV RL 99 RX4 yX4_greedyCauses wsX4_greedyCauses) := goodIn_app (goodIn_of _ (by decide +kernel)) ggL_causes_X4_greedyCauses
set_option maxRecDepth 20000 in
theorem ggL_causes_L_greedy : GoodIn wsL_causes wsL_greedy := goodIn_ca (goodIn_r _ [175, 6, 176, 177, 178, 10, 179, 16, 17, 63, 64, 65, 66, 67, 68, 69, 31, 70, 71, 72, 73, 74, 75, 76, 77, 78, 79, 80, 81, 82, 83, 84, 85, 35, 86, 87, 42, 43, 180, 181, 182, 183, 169, 170, 171, 172, 39, 40, 41, 120, 121, 122, 123, 124, 109, 110, 111, 112, 113, 114, 115, 204, 205, 206, 192, 193, 194, 195, 196, 200, 201, 202, 203] (by decide +kernel) (by decide +kernel)) (goodIn_sub (fun _ h => List.mem_cons_of_mem _ (List.mem_append_right _ h)) (by decide +kernel))
set_option maxRecDepth 20000 in
theorem gL_causes_L_greedy : GoodIn wsL_causes (va_wsS RL 102 yL_greedy wsL_greedy) := goodIn_app (goodIn_of _ (by decide +kernel)) ggL_causes_L_greedy
set_option maxRecDepth 20000 in
theorem ggL_causes_L_size : GoodIn wsL_causes wsL_size := goodIn_r _ [160] (by decide +kernel) (by decide +kernel)
set_option maxRecDepth 20000 in
theorem gL_causes_L_size : GoodIn wsL_causes (va_wsS RL 77 yL_size wsL_size) := goodIn_app (goodIn_of _ (by decide +kernel)) ggL_causes_L_size
set_option maxRecDepth 20000 in
theorem ggL_causes_L_causeOf : GoodIn wsL_causes wsL_causeOf := goodIn_ca (goodIn_r _ [186, 6, 187, 188, 189, 10, 190, 70, 31, 13, 14, 15, 16, 17, 38, 39, 40, 41, 42, 43, 63, 64, 65, 66, 67, 68, 69, 71, 72, 73, 74, 75, 76, 77, 78, 79, 80, 81, 82, 83, 84, 85, 35, 86, 87, 96, 97, 98, 99, 100, 101, 102, 103, 104, 105, 106, 107, 108, 109, 110, 111, 112, 113, 114, 115, 116, 117, 118, 119, 37, 120, 121, 122, 123, 124, 191, 136, 192, 193, 194, 195, 196, 204, 205, 206, 200, 201, 202, 203] (by decide +kernel) (by decide +kernel)) (goodIn_sub (fun _ h => List.mem_cons_of_mem _ (List.mem_append_right _ h)) (by decide +kernel))
set_option maxRecDepth 20000 in
theorem gL_causes_L_causeOf : GoodIn wsL_causes (va_wsS RL 105 yL_causeOf wsL_causeOf) := goodIn_app (goodIn_of _ (by decide +kernel)) ggL_causes_L_causeOf
set_option maxRecDepth 20000 in
theorem ggL_law_X4_init : GoodIn wsL_law wsX4_init := goodIn_r _ [5, 6, 7, 8, 9, 10, 11, 12, 13, 14, 15, 16, 17, 18, 19, 20, 21, 22, 23, 24, 25, 26, 27, 28, 29, 30, 31, 32, 33, 34, 35, 36, 37, 38, 39, 40, 41, 42, 43, 44, 45, 46, 377, 378, 379, 380, 372, 373, 374, 375, 376, 381, 382, 383, 384, 385, 386, 387, 388, 389] (by decide +kernel) (by decide +kernel)
set_option maxRecDepth 20000 in
theorem gL_law_X4_init : GoodIn wsL_law (wsX4_init) := ggL_law_X4_init
set_option maxRecDepth 20000 in
theorem ggL_law_L_hangs : GoodIn wsL_law wsL_hangs := goodIn_ca (goodIn_r _ [50, 51, 52, 49, 53, 54, 55, 56, 57, 2, 58, 12, 59, 60, 61, 62, 63, 64, 65, 66, 11, 67, 27, 68, 69, 70, 71, 72, 73, 74, 75, 76, 77, 78, 79, 80, 81, 82, 83, 84, 85, 86, 87, 88, 89, 90, 91, 92, 93, 94, 95, 96, 97, 98, 29, 372, 373, 374, 375, 376, 377, 378, 379, 380] (by decide +kernel) (by decide +kernel)) (goodIn_sub (fun _ h => List.mem_append_left _ (List.mem_append_left _ (List.mem_append_right _ h))) (by decide +kernel))
set_option maxRecDepth 20000 in
theorem gL_law_L_hangs : GoodIn wsL_law (va_wsS RL 108 yL_hangs wsL_hangs) := goodIn_app (goodIn_of _ (by decide +kernel)) ggL_law_L_hangs
set_option maxRecDepth 20000 in
theorem ggL_law_L_causes : GoodIn wsL_law wsL_causes := goodIn_ca (goodIn_r _ [101, 26, 102, 103, 49, 104, 54, 105, 106, 107, 2, 108, 20, 59, 60, 61, 62, 63, 109, 110, 111, 19, 112, 44, 88, 89, 90, 91, 92, 93, 94, 12, 95, 96, 97, 11, 98, 29, 68, 69, 70, 71, 72, 73, 51, 52, 53, 55, 56, 57, 58, 64, 65, 66, 67, 27, 113, 114, 115, 116, 117, 118, 119, 120, 121, 122, 123, 124, 125, 126, 21, 127, 128, 129, 130, 7, 8, 131, 132, 133, 134, 135, 136, 137, 138, 139, 140, 28, 141, 142, 143, 144, 145, 146, 147, 148, 149, 150, 151, 152, 153, 154, 155, 156, 157, 158, 159, 160, 161, 162, 163, 164, 165, 166, 167, 168, 169, 170, 171, 172, 173, 174, 175, 176, 30, 177, 178, 179, 180, 181, 182, 183, 184, 185, 186, 187, 188, 189, 190, 191, 192, 193, 194, 195, 196, 197, 198, 199, 200, 201, 202, 203, 204, 205, 206, 207, 208, 209, 210, 211, 212, 213, 214, 215, 216, 217, 218, 219, 220, 221, 222, 223, 224, 225, 226, 227, 228, 229, 230, 231, 232, 233, 234, 235, 236, 237, 238, 239, 240, 241, 242, 243, 372, 373, 374, 375, 376, 387, 388, 389, 377, 378, 379, 380, 390, 391, 392] rfl (by decide +kernel)) (goodIn_sub (fun _ h => List.mem_append_left _ (List.mem_append_left _ (List.mem_append_right _ h))) (by decide +kernel))
set_option maxRecDepth 20000 in
theorem gL_law_L_causes : GoodIn wsL_law (va_wsS RL 112 yL_causes wsL_causes) := goodIn_app (goodIn_of _ (by decide +kernel)) ggL_law_L_causes
set_option maxRecDepth 20000 in
theorem ggL_law_L_cell : GoodIn wsL_law wsL_cell := goodIn_r _ [246, 247, 248] (by decide +kernel) (by decide +kernel)
set_option maxRecDepth 20000 in
theorem gL_law_L_cell : GoodIn wsL_law (va_wsS RL 114 yL_cell wsL_cell) := goodIn_app (goodIn_of _ (by decide +kernel)) ggL_law_L_cell
set_option maxRecDepth 20000 in
theorem ggL_law_L_depends : GoodIn wsL_law wsL_depends := goodIn_ca (goodIn_r _ [90, 54, 91, 92, 93, 2, 94, 12, 59, 60, 61, 62, 63, 95, 96, 97, 11, 98, 29, 68, 69, 70, 71, 72, 73, 372, 373, 374, 375, 376, 377, 378, 379, 380] (by decide +kernel) (by decide +kernel)) (goodIn_sub (fun _ h => List.mem_append_left _ (List.mem_append_left _ (List.mem_append_right _ h))) (by decide +kernel))
set_option maxRecDepth 20000 in
theorem gL_law_L_depends : GoodIn wsL_law (va_wsS RL 70 yL_depends wsL_depends) := goodIn_app (goodIn_of _ (by decide +kernel)) ggL_law_L_depends
set_option maxRecDepth 20000 in
theorem ggL_law_L_need : GoodIn wsL_law wsL_need := goodIn_ca (goodIn_ca (goodIn_r _ [251, 54, 252, 253, 254, 255, 2, 256, 257, 258, 12, 59, 60, 61, 62, 63, 95, 96, 97, 11, 98, 29, 68, 69, 70, 71, 72, 73, 259, 260, 261, 262, 27, 28, 263, 264, 265, 266, 30, 267, 268, 269, 85, 86, 87, 372, 373, 374, 375, 376, 377, 378, 379, 380] (by decide +kernel) (by decide +kernel)) (goodIn_sub (fun _ h => List.mem_append_left _ (List.mem_append_right _ h)) (by decide +kernel))) (goodIn_sub (fun _ h => List.mem_append_left _ (List.mem_append_left _ (List.mem_append_right _ h))) (by decide +kernel))
set_option maxRecDepth 20000 in
theorem gL_law_L_need : GoodIn wsL_law (va_wsS RL 117 yL_need wsL_need) := goodIn_app (goodIn_of _ (by decide +kernel)) ggL_law_L_need
set_option maxRecDepth 20000 in
theorem ggL_law_L_needs : GoodIn wsL_law wsL_needs := goodIn_ca (goodIn_r _ [53, 54, 55, 56, 57, 2, 58, 12, 59, 60, 61, 62, 63, 64, 65, 66, 11, 67, 27, 68, 69, 70, 71, 72, 73, 372, 373, 374, 375, 376, 377, 378, 379, 380] (by decide +kernel) (by decide +kernel)) (goodIn_sub (fun _ h => List.mem_append_left _ (List.mem_append_left _ (List.mem_append_right _ h))) (by decide +kernel))
set_option maxRecDepth 20000 in
theorem gL_law_L_needs : GoodIn wsL_law (va_wsS RL 62 yL_needs wsL_needs) := goodIn_app (goodIn_of _ (by decide +kernel)) ggL_law_L_needs
set_option maxRecDepth 20000 in
theorem ggL_law_L_release : GoodIn wsL_law wsL_release := goodIn_ca (goodIn_r _ [272, 54, 273, 274, 275, 2, 276, 12, 59, 60, 61, 62, 63, 277, 278, 279, 11, 280, 27, 28, 69, 70, 71, 72, 73, 263, 264, 265, 266, 29, 30, 267, 268, 269, 85, 86, 87, 372, 373, 374, 375, 376, 377, 378, 379, 380] (by decide +kernel) (by decide +kernel)) (goodIn_sub (fun _ h => List.mem_append_left _ (List.mem_append_left _ (List.mem_append_right _ h))) (by decide +kernel))
set_option maxRecDepth 20000 in
theorem gL_law_L_release : GoodIn wsL_law (va_wsS RL 119 yL_release wsL_release) := goodIn_app (goodIn_of _ (by decide +kernel)) ggL_law_L_release
set_option maxRecDepth 20000 in
theorem ggL_law_X4_now : GoodIn wsL_law wsX4_now := goodIn_r _ [284, 22, 372, 373, 374, 375, 376] (by decide +kernel) (by decide +kernel)
set_option maxRecDepth 20000 in
theorem gL_law_X4_now : GoodIn wsL_law (wsV RL 121 RX4 yX4_now wsX4_now) := goodIn_app (goodIn_of _ (by decide +kernel)) ggL_law_X4_now
set_option maxRecDepth 20000 in
theorem ggL_law_L_tick : GoodIn wsL_law wsL_tick := goodIn_ca (goodIn_r _ [287, 252, 288, 289, 290, 2, 291, 22, 292, 293, 294, 257, 258, 372, 373, 374, 375, 376] (by decide +kernel) (by decide +kernel)) (goodIn_sub (fun _ h => List.mem_append_left _ (List.mem_append_right _ h)) (by decide +kernel))
set_option maxRecDepth 20000 in
theorem gL_law_L_tick : GoodIn wsL_law (va_wsS RL 124 yL_tick wsL_tick) := goodIn_app (goodIn_of _ (by decide +kernel)) ggL_law_L_tick
set_option maxRecDepth 20000 in
theorem ggL_law_L_ticket : GoodIn wsL_law wsL_ticket := goodIn_ca (goodIn_r _ [104, 54, 105, 106, 107, 2, 108, 20, 59, 60, 61, 62, 63, 109, 110, 111, 19, 112, 44, 372, 373, 374, 375, 376, 387, 388, 389] (by decide +kernel) (by decide +kernel)) (goodIn_sub (fun _ h => List.mem_append_left _ (List.mem_append_left _ (List.mem_append_right _ h))) (by decide +kernel))
set_option maxRecDepth 20000 in
theorem gL_law_L_ticket : GoodIn wsL_law (va_wsS RL 80 yL_ticket wsL_ticket) := goodIn_app (goodIn_of _ (by decide +kernel)) ggL_law_L_ticket
set_option maxRecDepth 20000 in
theorem ggL_law_X4_events : GoodIn wsL_law wsX4_events := goodIn_r _ [298, 16, 299, 300, 301, 15, 302, 39, 372, 373, 374, 375, 376, 381, 382, 383, 384, 385, 386] (by decide +kernel) (by decide +kernel)
set_option maxRecDepth 20000 in
theorem gL_law_X4_events : GoodIn wsL_law (wsV RL 126 RX4 yX4_events wsX4_events) := goodIn_app (goodIn_of _ (by decide +kernel)) ggL_law_X4_events
set_option maxRecDepth 20000 in
theorem ggL_law_L_clear : GoodIn wsL_law wsL_clear := goodIn_ca (goodIn_ca (goodIn_r _ [305, 54, 306, 307, 308, 309, 2, 310, 21, 16, 22, 20, 59, 60, 61, 62, 63, 68, 69, 70, 71, 72, 73, 311, 312, 313, 314, 315, 316, 317, 318, 319, 15, 320, 39, 321, 322, 323, 324, 38, 325, 326, 327, 328, 34, 35, 36, 37, 329, 330, 331, 19, 332, 44, 333, 334, 335, 336, 337, 338, 339, 340, 46, 45, 372, 373, 374, 375, 376, 381, 382, 383, 384, 385, 386, 387, 388, 389] (by decide +kernel) (by decide +kernel)) (goodIn_sub (fun _ h => List.mem_append_left _ (List.mem_append_left _ (List.mem_append_right _ h))) (by decide +kernel))) (goodIn_sub (fun _ h => List.mem_append_right _ h) (by decide +kernel))
set_option maxRecDepth 20000 in
theorem gL_law_L_clear : GoodIn wsL_law (va_wsS RL 129 yL_clear wsL_clear) := goodIn_app (goodIn_of _ (by decide +kernel)) ggL_law_L_clear
set_option maxRecDepth 20000 in
theorem ggL_law_L_raise : GoodIn wsL_law wsL_raise := goodIn_ca (goodIn_ca (goodIn_r _ [343, 54, 306, 344, 345, 346, 2, 347, 21, 16, 22, 12, 20, 59, 60, 61, 62, 63, 68, 69, 70, 71, 72, 73, 311, 312, 313, 314, 315, 316, 317, 318, 319, 15, 320, 39, 348, 349, 350, 351, 38, 325, 326, 327, 328, 34, 35, 36, 37, 95, 96, 97, 11, 98, 29, 352, 353, 354, 355, 30, 356, 357, 358, 19, 359, 46, 44, 360, 361, 362, 363, 364, 365, 366, 367, 368, 369, 370, 371, 45, 337, 338, 339, 340, 372, 373, 374, 375, 376, 381, 382, 383, 384, 385, 386, 377, 378, 379, 380, 387, 388, 389] (by decide +kernel) (by decide +kernel)) (goodIn_sub (fun _ h => List.mem_append_left _ (List.mem_append_left _ (List.mem_append_right _ h))) (by decide +kernel))) (goodIn_sub (fun _ h => List.mem_append_right _ h) (by decide +kernel))
set_option maxRecDepth 20000 in
theorem gL_law_L_raise : GoodIn wsL_law (va_wsS RL 131 yL_raise wsL_raise) := goodIn_app (goodIn_of _ (by decide +kernel)) ggL_law_L_raise
end
section
theorem inlX0 : ∀ w ∈ wsX00, w ∈ wsL_law := fun _ h => List.mem_append_left _ (List.mem_append_left _ (List.mem_append_left _ (List.mem_append_left _ (List.mem_append_right _ h))))
theorem inX0 : ∀ w ∈ wsX00, w ∈ lw_tbl := fun w h => wsL_law_in w (inlX0 w h)
theorem inlX1 : ∀ w ∈ wsX10, w ∈ wsL_law := fun _ h => List.mem_append_left _ (List.mem_append_left _ (List.mem_append_left _ (List.mem_append_left _ (List.mem_append_left _ (List.mem_append_left _ (List.mem_append_left _ (List.mem_append_right _ h)))))))
theorem inX1 : ∀ w ∈ wsX10, w ∈ lw_tbl := fun w h => wsL_law_in w (inlX1 w h)
theorem inlX2 : ∀ w ∈ wsX20, w ∈ wsL_law := fun _ h => List.mem_append_left _ (List.mem_append_left _ (List.mem_append_left _ (List.mem_append_left _ (List.mem_append_left _ (List.mem_append_left _ (List.mem_append_right _ h))))))
theorem inX2 : ∀ w ∈ wsX20, w ∈ lw_tbl := fun w h => wsL_law_in w (inlX2 w h)
theorem inlX3 : ∀ w ∈ wsX30, w ∈ wsL_law := fun _ h => List.mem_append_left _ (List.mem_append_left _ (List.mem_append_left _ (List.mem_append_left _ (List.mem_append_left _ (List.mem_append_right _ h)))))
theorem inX3 : ∀ w ∈ wsX30, w ∈ lw_tbl := fun w h => wsL_law_in w (inlX3 w h)
theorem inlX4 : ∀ w ∈ wsX40, w ∈ wsL_law := fun _ h => List.mem_append_left _ (List.mem_append_left _ (List.mem_append_left _ (List.mem_append_left _ (List.mem_append_left _ (List.mem_append_left _ (List.mem_append_left _ (List.mem_append_left _ (List.mem_append_right _ h))))))))
theorem inX4 : ∀ w ∈ wsX40, w ∈ lw_tbl := fun w h => wsL_law_in w (inlX4 w h)
theorem inX5 : ∀ w ∈ wsX50, w ∈ lw_tbl := by decide +kernel
theorem inJ6 : ∀ w ∈ wsJ60, w ∈ lw_tbl := by decide +kernel
theorem inJ9 : ∀ w ∈ wsJ90, w ∈ lw_tbl := by decide +kernel
theorem inJ0 : ∀ w ∈ wsJ00, w ∈ lw_tbl := by decide +kernel
theorem dX0_init_0 : decode cX0_init 0 = .ok (.aload_n 0, 1) := by decide +kernel
theorem dX0_init_1 : decode cX0_init 1 = .ok (.invokespecial 3, 3) := by decide +kernel
theorem dX0_init_4 : decode cX0_init 4 = .ok (.aload_n 0, 1) := by decide +kernel
theorem dX0_init_5 : decode cX0_init 5 = .ok (.aload_n 1, 1) := by decide +kernel
theorem dX0_init_6 : decode cX0_init 6 = .ok (.putfield 9, 3) := by decide +kernel
theorem dX0_init_9 : decode cX0_init 9 = .ok (.aload_n 0, 1) := by decide +kernel
theorem dX0_init_10 : decode cX0_init 10 = .ok (.iload_n 2, 1) := by decide +kernel
theorem dX0_init_11 : decode cX0_init 11 = .ok (.putfield 15, 3) := by decide +kernel
theorem dX0_init_14 : decode cX0_init 14 = .ok (.aload_n 0, 1) := by decide +kernel
theorem dX0_init_15 : decode cX0_init 15 = .ok (.aload_n 1, 1) := by decide +kernel
theorem dX0_init_16 : decode cX0_init 16 = .ok (.iload_n 2, 1) := by decide +kernel
theorem dX0_init_17 : decode cX0_init 17 = .ok (.invokestatic 19, 3) := by decide +kernel
theorem dX0_init_20 : decode cX0_init 20 = .ok (.putfield 23, 3) := by decide +kernel
theorem dX0_init_23 : decode cX0_init 23 = .ok (.return_, 1) := by decide +kernel
theorem dX0_plausibleNodes_0 : decode cX0_plausibleNodes 0 = .ok (.aload_n 0, 1) := by decide +kernel
theorem dX0_plausibleNodes_1 : decode cX0_plausibleNodes 1 = .ok (.getfield 23, 3) := by decide +kernel
theorem dX0_plausibleNodes_4 : decode cX0_plausibleNodes 4 = .ok (.ireturn, 1) := by decide +kernel
theorem dX0_bestBySearch_0 : decode cX0_bestBySearch 0 = .ok (.aload_n 0, 1) := by decide +kernel
theorem dX0_bestBySearch_1 : decode cX0_bestBySearch 1 = .ok (.iconst 0, 1) := by decide +kernel
theorem dX0_bestBySearch_2 : decode cX0_bestBySearch 2 = .ok (.iconst 0, 1) := by decide +kernel
theorem dX0_bestBySearch_3 : decode cX0_bestBySearch 3 = .ok (.aload_n 0, 1) := by decide +kernel
theorem dX0_bestBySearch_4 : decode cX0_bestBySearch 4 = .ok (.getfield 15, 3) := by decide +kernel
theorem dX0_bestBySearch_7 : decode cX0_bestBySearch 7 = .ok (.aload_n 0, 1) := by decide +kernel
theorem dX0_bestBySearch_8 : decode cX0_bestBySearch 8 = .ok (.getfield 23, 3) := by decide +kernel
theorem dX0_bestBySearch_11 : decode cX0_bestBySearch 11 = .ok (.aload_n 0, 1) := by decide +kernel
theorem dX0_bestBySearch_12 : decode cX0_bestBySearch 12 = .ok (.getfield 15, 3) := by decide +kernel
theorem dX0_bestBySearch_15 : decode cX0_bestBySearch 15 = .ok (.invokestatic 26, 3) := by decide +kernel
theorem dX0_bestBySearch_18 : decode cX0_bestBySearch 18 = .ok (.ireturn, 1) := by decide +kernel
theorem dX0_bestByTrying_0 : decode cX0_bestByTrying 0 = .ok (.aload_n 0, 1) := by decide +kernel
theorem dX0_bestByTrying_1 : decode cX0_bestByTrying 1 = .ok (.getfield 15, 3) := by decide +kernel
theorem dX0_bestByTrying_4 : decode cX0_bestByTrying 4 = .ok (.istore_n 1, 1) := by decide +kernel
theorem dX0_bestByTrying_5 : decode cX0_bestByTrying 5 = .ok (.iconst 1, 1) := by decide +kernel
theorem dX0_bestByTrying_6 : decode cX0_bestByTrying 6 = .ok (.aload_n 0, 1) := by decide +kernel
theorem dX0_bestByTrying_7 : decode cX0_bestByTrying 7 = .ok (.getfield 23, 3) := by decide +kernel
theorem dX0_bestByTrying_10 : decode cX0_bestByTrying 10 = .ok (.invokestatic 30, 3) := by decide +kernel
theorem dX0_bestByTrying_13 : decode cX0_bestByTrying 13 = .ok (.ishl, 1) := by decide +kernel
theorem dX0_bestByTrying_14 : decode cX0_bestByTrying 14 = .ok (.istore_n 2, 1) := by decide +kernel
theorem dX0_bestByTrying_15 : decode cX0_bestByTrying 15 = .ok (.iconst 0, 1) := by decide +kernel
theorem dX0_bestByTrying_16 : decode cX0_bestByTrying 16 = .ok (.istore_n 3, 1) := by decide +kernel
theorem dX0_bestByTrying_17 : decode cX0_bestByTrying 17 = .ok (.iconst 0, 1) := by decide +kernel
theorem dX0_bestByTrying_18 : decode cX0_bestByTrying 18 = .ok (.istore 4, 2) := by decide +kernel
theorem dX0_bestByTrying_20 : decode cX0_bestByTrying 20 = .ok (.iload 4, 2) := by decide +kernel
theorem dX0_bestByTrying_22 : decode cX0_bestByTrying 22 = .ok (.iload_n 2, 1) := by decide +kernel
theorem dX0_bestByTrying_23 : decode cX0_bestByTrying 23 = .ok (.if_icmp .ge 40, 3) := by decide +kernel
theorem dX0_bestByTrying_26 : decode cX0_bestByTrying 26 = .ok (.aload_n 0, 1) := by decide +kernel
theorem dX0_bestByTrying_27 : decode cX0_bestByTrying 27 = .ok (.iload_n 3, 1) := by decide +kernel
theorem dX0_bestByTrying_28 : decode cX0_bestByTrying 28 = .ok (.iload_n 1, 1) := by decide +kernel
theorem dX0_bestByTrying_29 : decode cX0_bestByTrying 29 = .ok (.invokevirtual 36, 3) := by decide +kernel
theorem dX0_bestByTrying_32 : decode cX0_bestByTrying 32 = .ok (.ifCond .eq 13, 3) := by decide +kernel
theorem dX0_bestByTrying_35 : decode cX0_bestByTrying 35 = .ok (.aload_n 0, 1) := by decide +kernel
theorem dX0_bestByTrying_36 : decode cX0_bestByTrying 36 = .ok (.iload_n 3, 1) := by decide +kernel
theorem dX0_bestByTrying_37 : decode cX0_bestByTrying 37 = .ok (.invokevirtual 40, 3) := by decide +kernel
theorem dX0_bestByTrying_40 : decode cX0_bestByTrying 40 = .ok (.ifCond .eq 5, 3) := by decide +kernel
theorem dX0_bestByTrying_43 : decode cX0_bestByTrying 43 = .ok (.iload_n 3, 1) := by decide +kernel
theorem dX0_bestByTrying_44 : decode cX0_bestByTrying 44 = .ok (.istore_n 1, 1) := by decide +kernel
theorem dX0_bestByTrying_45 : decode cX0_bestByTrying 45 = .ok (.iload_n 3, 1) := by decide +kernel
theorem dX0_bestByTrying_46 : decode cX0_bestByTrying 46 = .ok (.aload_n 0, 1) := by decide +kernel
theorem dX0_bestByTrying_47 : decode cX0_bestByTrying 47 = .ok (.getfield 23, 3) := by decide +kernel
theorem dX0_bestByTrying_50 : decode cX0_bestByTrying 50 = .ok (.isub, 1) := by decide +kernel
theorem dX0_bestByTrying_51 : decode cX0_bestByTrying 51 = .ok (.aload_n 0, 1) := by decide +kernel
theorem dX0_bestByTrying_52 : decode cX0_bestByTrying 52 = .ok (.getfield 23, 3) := by decide +kernel
theorem dX0_bestByTrying_55 : decode cX0_bestByTrying 55 = .ok (.iand, 1) := by decide +kernel
theorem dX0_bestByTrying_56 : decode cX0_bestByTrying 56 = .ok (.istore_n 3, 1) := by decide +kernel
theorem dX0_bestByTrying_57 : decode cX0_bestByTrying 57 = .ok (.iinc 4 1, 3) := by decide +kernel
theorem dX0_bestByTrying_60 : decode cX0_bestByTrying 60 = .ok (.goto (-40), 3) := by decide +kernel
theorem dX0_bestByTrying_63 : decode cX0_bestByTrying 63 = .ok (.iload_n 1, 1) := by decide +kernel
theorem dX0_bestByTrying_64 : decode cX0_bestByTrying 64 = .ok (.ireturn, 1) := by decide +kernel
theorem dX0_greedyCount_0 : decode cX0_greedyCount 0 = .ok (.aload_n 0, 1) := by decide +kernel
theorem dX0_greedyCount_1 : decode cX0_greedyCount 1 = .ok (.getfield 15, 3) := by decide +kernel
theorem dX0_greedyCount_4 : decode cX0_greedyCount 4 = .ok (.istore_n 1, 1) := by decide +kernel
theorem dX0_greedyCount_5 : decode cX0_greedyCount 5 = .ok (.iconst 0, 1) := by decide +kernel
theorem dX0_greedyCount_6 : decode cX0_greedyCount 6 = .ok (.istore_n 2, 1) := by decide +kernel
theorem dX0_greedyCount_7 : decode cX0_greedyCount 7 = .ok (.iload_n 1, 1) := by decide +kernel
theorem dX0_greedyCount_8 : decode cX0_greedyCount 8 = .ok (.ifCond .eq 32, 3) := by decide +kernel
theorem dX0_greedyCount_11 : decode cX0_greedyCount 11 = .ok (.iload_n 2, 1) := by decide +kernel
theorem dX0_greedyCount_12 : decode cX0_greedyCount 12 = .ok (.bipush 14, 2) := by decide +kernel
theorem dX0_greedyCount_14 : decode cX0_greedyCount 14 = .ok (.if_icmp .ge 26, 3) := by decide +kernel
theorem dX0_greedyCount_17 : decode cX0_greedyCount 17 = .ok (.iload_n 1, 1) := by decide +kernel
theorem dX0_greedyCount_18 : decode cX0_greedyCount 18 = .ok (.aload_n 0, 1) := by decide +kernel
theorem dX0_greedyCount_19 : decode cX0_greedyCount 19 = .ok (.getfield 9, 3) := by decide +kernel
theorem dX0_greedyCount_22 : decode cX0_greedyCount 22 = .ok (.aload_n 0, 1) := by decide +kernel
theorem dX0_greedyCount_23 : decode cX0_greedyCount 23 = .ok (.iload_n 1, 1) := by decide +kernel
theorem dX0_greedyCount_24 : decode cX0_greedyCount 24 = .ok (.invokevirtual 44, 3) := by decide +kernel
theorem dX0_greedyCount_27 : decode cX0_greedyCount 27 = .ok (.invokevirtual 47, 3) := by decide +kernel
theorem dX0_greedyCount_30 : decode cX0_greedyCount 30 = .ok (.iconst (-1), 1) := by decide +kernel
theorem dX0_greedyCount_31 : decode cX0_greedyCount 31 = .ok (.ixor, 1) := by decide +kernel
theorem dX0_greedyCount_32 : decode cX0_greedyCount 32 = .ok (.iand, 1) := by decide +kernel
theorem dX0_greedyCount_33 : decode cX0_greedyCount 33 = .ok (.istore_n 1, 1) := by decide +kernel
theorem dX0_greedyCount_34 : decode cX0_greedyCount 34 = .ok (.iinc 2 1, 3) := by decide +kernel
theorem dX0_greedyCount_37 : decode cX0_greedyCount 37 = .ok (.goto (-30), 3) := by decide +kernel
theorem dX0_greedyCount_40 : decode cX0_greedyCount 40 = .ok (.iload_n 2, 1) := by decide +kernel
theorem dX0_greedyCount_41 : decode cX0_greedyCount 41 = .ok (.ireturn, 1) := by decide +kernel
theorem dX0_greedyAt_0 : decode cX0_greedyAt 0 = .ok (.aload_n 0, 1) := by decide +kernel
theorem dX0_greedyAt_1 : decode cX0_greedyAt 1 = .ok (.getfield 15, 3) := by decide +kernel
theorem dX0_greedyAt_4 : decode cX0_greedyAt 4 = .ok (.istore_n 2, 1) := by decide +kernel
theorem dX0_greedyAt_5 : decode cX0_greedyAt 5 = .ok (.iconst 0, 1) := by decide +kernel
theorem dX0_greedyAt_6 : decode cX0_greedyAt 6 = .ok (.istore_n 3, 1) := by decide +kernel
theorem dX0_greedyAt_7 : decode cX0_greedyAt 7 = .ok (.iload_n 3, 1) := by decide +kernel
theorem dX0_greedyAt_8 : decode cX0_greedyAt 8 = .ok (.bipush 14, 2) := by decide +kernel
theorem dX0_greedyAt_10 : decode cX0_greedyAt 10 = .ok (.if_icmp .ge 42, 3) := by decide +kernel
theorem dX0_greedyAt_13 : decode cX0_greedyAt 13 = .ok (.iload_n 2, 1) := by decide +kernel
theorem dX0_greedyAt_14 : decode cX0_greedyAt 14 = .ok (.ifCond .eq 38, 3) := by decide +kernel
theorem dX0_greedyAt_17 : decode cX0_greedyAt 17 = .ok (.aload_n 0, 1) := by decide +kernel
theorem dX0_greedyAt_18 : decode cX0_greedyAt 18 = .ok (.iload_n 2, 1) := by decide +kernel
theorem dX0_greedyAt_19 : decode cX0_greedyAt 19 = .ok (.invokevirtual 44, 3) := by decide +kernel
theorem dX0_greedyAt_22 : decode cX0_greedyAt 22 = .ok (.istore 4, 2) := by decide +kernel
theorem dX0_greedyAt_24 : decode cX0_greedyAt 24 = .ok (.iload_n 3, 1) := by decide +kernel
theorem dX0_greedyAt_25 : decode cX0_greedyAt 25 = .ok (.iload_n 1, 1) := by decide +kernel
theorem dX0_greedyAt_26 : decode cX0_greedyAt 26 = .ok (.if_icmp .ne 6, 3) := by decide +kernel
theorem dX0_greedyAt_29 : decode cX0_greedyAt 29 = .ok (.iload 4, 2) := by decide +kernel
theorem dX0_greedyAt_31 : decode cX0_greedyAt 31 = .ok (.ireturn, 1) := by decide +kernel
theorem dX0_greedyAt_32 : decode cX0_greedyAt 32 = .ok (.iload_n 2, 1) := by decide +kernel
theorem dX0_greedyAt_33 : decode cX0_greedyAt 33 = .ok (.aload_n 0, 1) := by decide +kernel
theorem dX0_greedyAt_34 : decode cX0_greedyAt 34 = .ok (.getfield 9, 3) := by decide +kernel
theorem dX0_greedyAt_37 : decode cX0_greedyAt 37 = .ok (.iload 4, 2) := by decide +kernel
theorem dX0_greedyAt_39 : decode cX0_greedyAt 39 = .ok (.invokevirtual 47, 3) := by decide +kernel
theorem dX0_greedyAt_42 : decode cX0_greedyAt 42 = .ok (.iconst (-1), 1) := by decide +kernel
theorem dX0_greedyAt_43 : decode cX0_greedyAt 43 = .ok (.ixor, 1) := by decide +kernel
theorem dX0_greedyAt_44 : decode cX0_greedyAt 44 = .ok (.iand, 1) := by decide +kernel
theorem dX0_greedyAt_45 : decode cX0_greedyAt 45 = .ok (.istore_n 2, 1) := by decide +kernel
theorem dX0_greedyAt_46 : decode cX0_greedyAt 46 = .ok (.iinc 3 1, 3) := by decide +kernel
theorem dX0_greedyAt_49 : decode cX0_greedyAt 49 = .ok (.goto (-42), 3) := by decide +kernel
theorem dX0_greedyAt_52 : decode cX0_greedyAt 52 = .ok (.iconst (-1), 1) := by decide +kernel
theorem dX0_greedyAt_53 : decode cX0_greedyAt 53 = .ok (.ireturn, 1) := by decide +kernel
theorem dX0_greedyNext_0 : decode cX0_greedyNext 0 = .ok (.iconst 0, 1) := by decide +kernel
theorem dX0_greedyNext_1 : decode cX0_greedyNext 1 = .ok (.istore_n 2, 1) := by decide +kernel
theorem dX0_greedyNext_2 : decode cX0_greedyNext 2 = .ok (.iconst 0, 1) := by decide +kernel
theorem dX0_greedyNext_3 : decode cX0_greedyNext 3 = .ok (.istore_n 3, 1) := by decide +kernel
theorem dX0_greedyNext_4 : decode cX0_greedyNext 4 = .ok (.iconst 0, 1) := by decide +kernel
theorem dX0_greedyNext_5 : decode cX0_greedyNext 5 = .ok (.istore 4, 2) := by decide +kernel
theorem dX0_greedyNext_7 : decode cX0_greedyNext 7 = .ok (.iload 4, 2) := by decide +kernel
theorem dX0_greedyNext_9 : decode cX0_greedyNext 9 = .ok (.bipush 14, 2) := by decide +kernel
theorem dX0_greedyNext_11 : decode cX0_greedyNext 11 = .ok (.if_icmp .ge 99, 3) := by decide +kernel
theorem dX0_greedyNext_14 : decode cX0_greedyNext 14 = .ok (.aload_n 0, 1) := by decide +kernel
theorem dX0_greedyNext_15 : decode cX0_greedyNext 15 = .ok (.getfield 23, 3) := by decide +kernel
theorem dX0_greedyNext_18 : decode cX0_greedyNext 18 = .ok (.iload 4, 2) := by decide +kernel
theorem dX0_greedyNext_20 : decode cX0_greedyNext 20 = .ok (.invokestatic 52, 3) := by decide +kernel
theorem dX0_greedyNext_23 : decode cX0_greedyNext 23 = .ok (.ifCond .eq 20, 3) := by decide +kernel
theorem dX0_greedyNext_26 : decode cX0_greedyNext 26 = .ok (.aload_n 0, 1) := by decide +kernel
theorem dX0_greedyNext_27 : decode cX0_greedyNext 27 = .ok (.getfield 9, 3) := by decide +kernel
theorem dX0_greedyNext_30 : decode cX0_greedyNext 30 = .ok (.iload 4, 2) := by decide +kernel
theorem dX0_greedyNext_32 : decode cX0_greedyNext 32 = .ok (.invokevirtual 47, 3) := by decide +kernel
theorem dX0_greedyNext_35 : decode cX0_greedyNext 35 = .ok (.iload_n 1, 1) := by decide +kernel
theorem dX0_greedyNext_36 : decode cX0_greedyNext 36 = .ok (.iand, 1) := by decide +kernel
theorem dX0_greedyNext_37 : decode cX0_greedyNext 37 = .ok (.invokestatic 30, 3) := by decide +kernel
theorem dX0_greedyNext_40 : decode cX0_greedyNext 40 = .ok (.goto 4, 3) := by decide +kernel
theorem dX0_greedyNext_43 : decode cX0_greedyNext 43 = .ok (.iconst 0, 1) := by decide +kernel
theorem dX0_greedyNext_44 : decode cX0_greedyNext 44 = .ok (.istore 5, 2) := by decide +kernel
theorem dX0_greedyNext_46 : decode cX0_greedyNext 46 = .ok (.iload 5, 2) := by decide +kernel
theorem dX0_greedyNext_48 : decode cX0_greedyNext 48 = .ok (.iload_n 3, 1) := by decide +kernel
theorem dX0_greedyNext_49 : decode cX0_greedyNext 49 = .ok (.if_icmp .ne 30, 3) := by decide +kernel
theorem dX0_greedyNext_52 : decode cX0_greedyNext 52 = .ok (.aload_n 0, 1) := by decide +kernel
theorem dX0_greedyNext_53 : decode cX0_greedyNext 53 = .ok (.getfield 15, 3) := by decide +kernel
theorem dX0_greedyNext_56 : decode cX0_greedyNext 56 = .ok (.iload 4, 2) := by decide +kernel
theorem dX0_greedyNext_58 : decode cX0_greedyNext 58 = .ok (.invokestatic 52, 3) := by decide +kernel
theorem dX0_greedyNext_61 : decode cX0_greedyNext 61 = .ok (.ifCond .eq 18, 3) := by decide +kernel
theorem dX0_greedyNext_64 : decode cX0_greedyNext 64 = .ok (.aload_n 0, 1) := by decide +kernel
theorem dX0_greedyNext_65 : decode cX0_greedyNext 65 = .ok (.getfield 15, 3) := by decide +kernel
theorem dX0_greedyNext_68 : decode cX0_greedyNext 68 = .ok (.iload_n 2, 1) := by decide +kernel
theorem dX0_greedyNext_69 : decode cX0_greedyNext 69 = .ok (.invokestatic 52, 3) := by decide +kernel
theorem dX0_greedyNext_72 : decode cX0_greedyNext 72 = .ok (.ifCond .ne 7, 3) := by decide +kernel
theorem dX0_greedyNext_75 : decode cX0_greedyNext 75 = .ok (.iconst 1, 1) := by decide +kernel
theorem dX0_greedyNext_76 : decode cX0_greedyNext 76 = .ok (.goto 4, 3) := by decide +kernel
theorem dX0_greedyNext_79 : decode cX0_greedyNext 79 = .ok (.iconst 0, 1) := by decide +kernel
theorem dX0_greedyNext_80 : decode cX0_greedyNext 80 = .ok (.istore 6, 2) := by decide +kernel
theorem dX0_greedyNext_82 : decode cX0_greedyNext 82 = .ok (.iload 5, 2) := by decide +kernel
theorem dX0_greedyNext_84 : decode cX0_greedyNext 84 = .ok (.iload_n 3, 1) := by decide +kernel
theorem dX0_greedyNext_85 : decode cX0_greedyNext 85 = .ok (.if_icmp .gt 13, 3) := by decide +kernel
theorem dX0_greedyNext_88 : decode cX0_greedyNext 88 = .ok (.iload 5, 2) := by decide +kernel
theorem dX0_greedyNext_90 : decode cX0_greedyNext 90 = .ok (.ifCond .le 14, 3) := by decide +kernel
theorem dX0_greedyNext_93 : decode cX0_greedyNext 93 = .ok (.iload 6, 2) := by decide +kernel
theorem dX0_greedyNext_95 : decode cX0_greedyNext 95 = .ok (.ifCond .eq 9, 3) := by decide +kernel
theorem dX0_greedyNext_98 : decode cX0_greedyNext 98 = .ok (.iload 4, 2) := by decide +kernel
theorem dX0_greedyNext_100 : decode cX0_greedyNext 100 = .ok (.istore_n 2, 1) := by decide +kernel
theorem dX0_greedyNext_101 : decode cX0_greedyNext 101 = .ok (.iload 5, 2) := by decide +kernel
theorem dX0_greedyNext_103 : decode cX0_greedyNext 103 = .ok (.istore_n 3, 1) := by decide +kernel
theorem dX0_greedyNext_104 : decode cX0_greedyNext 104 = .ok (.iinc 4 1, 3) := by decide +kernel
theorem dX0_greedyNext_107 : decode cX0_greedyNext 107 = .ok (.goto (-100), 3) := by decide +kernel
theorem dX0_greedyNext_110 : decode cX0_greedyNext 110 = .ok (.iload_n 2, 1) := by decide +kernel
theorem dX0_greedyNext_111 : decode cX0_greedyNext 111 = .ok (.ireturn, 1) := by decide +kernel
theorem dX0_search_0 : decode cX0_search 0 = .ok (.iload_n 3, 1) := by decide +kernel
theorem dX0_search_1 : decode cX0_search 1 = .ok (.iconst 0, 1) := by decide +kernel
theorem dX0_search_2 : decode cX0_search 2 = .ok (.invokestatic 55, 3) := by decide +kernel
theorem dX0_search_5 : decode cX0_search 5 = .ok (.istore 6, 2) := by decide +kernel
theorem dX0_search_7 : decode cX0_search 7 = .ok (.iload 6, 2) := by decide +kernel
theorem dX0_search_9 : decode cX0_search 9 = .ok (.iconst (-1), 1) := by decide +kernel
theorem dX0_search_10 : decode cX0_search 10 = .ok (.if_icmp .ne 20, 3) := by decide +kernel
theorem dX0_search_13 : decode cX0_search 13 = .ok (.aload_n 0, 1) := by decide +kernel
theorem dX0_search_14 : decode cX0_search 14 = .ok (.iload_n 2, 1) := by decide +kernel
theorem dX0_search_15 : decode cX0_search 15 = .ok (.iload 5, 2) := by decide +kernel
theorem dX0_search_17 : decode cX0_search 17 = .ok (.invokevirtual 36, 3) := by decide +kernel
theorem dX0_search_20 : decode cX0_search 20 = .ok (.ifCond .eq 7, 3) := by decide +kernel
theorem dX0_search_23 : decode cX0_search 23 = .ok (.iload_n 2, 1) := by decide +kernel
theorem dX0_search_24 : decode cX0_search 24 = .ok (.goto 5, 3) := by decide +kernel
theorem dX0_search_27 : decode cX0_search 27 = .ok (.iload 5, 2) := by decide +kernel
theorem dX0_search_29 : decode cX0_search 29 = .ok (.ireturn, 1) := by decide +kernel
theorem dX0_search_30 : decode cX0_search 30 = .ok (.iload 5, 2) := by decide +kernel
theorem dX0_search_32 : decode cX0_search 32 = .ok (.istore 7, 2) := by decide +kernel
theorem dX0_search_34 : decode cX0_search 34 = .ok (.iload 4, 2) := by decide +kernel
theorem dX0_search_36 : decode cX0_search 36 = .ok (.istore 8, 2) := by decide +kernel
theorem dX0_search_38 : decode cX0_search 38 = .ok (.aload_n 0, 1) := by decide +kernel
theorem dX0_search_39 : decode cX0_search 39 = .ok (.getfield 9, 3) := by decide +kernel
theorem dX0_search_42 : decode cX0_search 42 = .ok (.iload 6, 2) := by decide +kernel
theorem dX0_search_44 : decode cX0_search 44 = .ok (.invokevirtual 59, 3) := by decide +kernel
theorem dX0_search_47 : decode cX0_search 47 = .ok (.iload 4, 2) := by decide +kernel
theorem dX0_search_49 : decode cX0_search 49 = .ok (.iand, 1) := by decide +kernel
theorem dX0_search_50 : decode cX0_search 50 = .ok (.istore 9, 2) := by decide +kernel
theorem dX0_search_52 : decode cX0_search 52 = .ok (.iconst 0, 1) := by decide +kernel
theorem dX0_search_53 : decode cX0_search 53 = .ok (.istore 10, 2) := by decide +kernel
theorem dX0_search_55 : decode cX0_search 55 = .ok (.iload 10, 2) := by decide +kernel
theorem dX0_search_57 : decode cX0_search 57 = .ok (.bipush 14, 2) := by decide +kernel
theorem dX0_search_59 : decode cX0_search 59 = .ok (.if_icmp .ge 95, 3) := by decide +kernel
theorem dX0_search_62 : decode cX0_search 62 = .ok (.iload_n 1, 1) := by decide +kernel
theorem dX0_search_63 : decode cX0_search 63 = .ok (.bipush 14, 2) := by decide +kernel
theorem dX0_search_65 : decode cX0_search 65 = .ok (.if_icmp .ge 16, 3) := by decide +kernel
theorem dX0_search_68 : decode cX0_search 68 = .ok (.iload_n 1, 1) := by decide +kernel
theorem dX0_search_69 : decode cX0_search 69 = .ok (.iload 7, 2) := by decide +kernel
theorem dX0_search_71 : decode cX0_search 71 = .ok (.invokestatic 30, 3) := by decide +kernel
theorem dX0_search_74 : decode cX0_search 74 = .ok (.if_icmp .ge 7, 3) := by decide +kernel
theorem dX0_search_77 : decode cX0_search 77 = .ok (.iconst 1, 1) := by decide +kernel
theorem dX0_search_78 : decode cX0_search 78 = .ok (.goto 4, 3) := by decide +kernel
theorem dX0_search_81 : decode cX0_search 81 = .ok (.iconst 0, 1) := by decide +kernel
theorem dX0_search_82 : decode cX0_search 82 = .ok (.istore 11, 2) := by decide +kernel
theorem dX0_search_84 : decode cX0_search 84 = .ok (.iload 9, 2) := by decide +kernel
theorem dX0_search_86 : decode cX0_search 86 = .ok (.iload 10, 2) := by decide +kernel
theorem dX0_search_88 : decode cX0_search 88 = .ok (.invokestatic 52, 3) := by decide +kernel
theorem dX0_search_91 : decode cX0_search 91 = .ok (.ifCond .eq 57, 3) := by decide +kernel
theorem dX0_search_94 : decode cX0_search 94 = .ok (.iload 11, 2) := by decide +kernel
theorem dX0_search_96 : decode cX0_search 96 = .ok (.ifCond .eq 52, 3) := by decide +kernel
theorem dX0_search_99 : decode cX0_search 99 = .ok (.iload 8, 2) := by decide +kernel
theorem dX0_search_101 : decode cX0_search 101 = .ok (.iload 10, 2) := by decide +kernel
theorem dX0_search_103 : decode cX0_search 103 = .ok (.invokestatic 62, 3) := by decide +kernel
theorem dX0_search_106 : decode cX0_search 106 = .ok (.iconst (-1), 1) := by decide +kernel
theorem dX0_search_107 : decode cX0_search 107 = .ok (.ixor, 1) := by decide +kernel
theorem dX0_search_108 : decode cX0_search 108 = .ok (.iand, 1) := by decide +kernel
theorem dX0_search_109 : decode cX0_search 109 = .ok (.istore 8, 2) := by decide +kernel
theorem dX0_search_111 : decode cX0_search 111 = .ok (.iload_n 3, 1) := by decide +kernel
theorem dX0_search_112 : decode cX0_search 112 = .ok (.aload_n 0, 1) := by decide +kernel
theorem dX0_search_113 : decode cX0_search 113 = .ok (.getfield 9, 3) := by decide +kernel
theorem dX0_search_116 : decode cX0_search 116 = .ok (.iload 10, 2) := by decide +kernel
theorem dX0_search_118 : decode cX0_search 118 = .ok (.invokevirtual 47, 3) := by decide +kernel
theorem dX0_search_121 : decode cX0_search 121 = .ok (.iconst (-1), 1) := by decide +kernel
theorem dX0_search_122 : decode cX0_search 122 = .ok (.ixor, 1) := by decide +kernel
theorem dX0_search_123 : decode cX0_search 123 = .ok (.iand, 1) := by decide +kernel
theorem dX0_search_124 : decode cX0_search 124 = .ok (.istore 12, 2) := by decide +kernel
theorem dX0_search_126 : decode cX0_search 126 = .ok (.aload_n 0, 1) := by decide +kernel
theorem dX0_search_127 : decode cX0_search 127 = .ok (.iload_n 1, 1) := by decide +kernel
theorem dX0_search_128 : decode cX0_search 128 = .ok (.iconst 1, 1) := by decide +kernel
theorem dX0_search_129 : decode cX0_search 129 = .ok (.iadd, 1) := by decide +kernel
theorem dX0_search_130 : decode cX0_search 130 = .ok (.iload_n 2, 1) := by decide +kernel
theorem dX0_search_131 : decode cX0_search 131 = .ok (.iload 10, 2) := by decide +kernel
theorem dX0_search_133 : decode cX0_search 133 = .ok (.invokestatic 62, 3) := by decide +kernel
theorem dX0_search_136 : decode cX0_search 136 = .ok (.ior, 1) := by decide +kernel
theorem dX0_search_137 : decode cX0_search 137 = .ok (.iload 12, 2) := by decide +kernel
theorem dX0_search_139 : decode cX0_search 139 = .ok (.iload 8, 2) := by decide +kernel
theorem dX0_search_141 : decode cX0_search 141 = .ok (.iload 7, 2) := by decide +kernel
theorem dX0_search_143 : decode cX0_search 143 = .ok (.invokestatic 26, 3) := by decide +kernel
theorem dX0_search_146 : decode cX0_search 146 = .ok (.istore 7, 2) := by decide +kernel
theorem dX0_search_148 : decode cX0_search 148 = .ok (.iinc 10 1, 3) := by decide +kernel
theorem dX0_search_151 : decode cX0_search 151 = .ok (.goto (-96), 3) := by decide +kernel
theorem dX0_search_154 : decode cX0_search 154 = .ok (.iload 7, 2) := by decide +kernel
theorem dX0_search_156 : decode cX0_search 156 = .ok (.ireturn, 1) := by decide +kernel
theorem dX0_isBetter_0 : decode cX0_isBetter 0 = .ok (.iload_n 1, 1) := by decide +kernel
theorem dX0_isBetter_1 : decode cX0_isBetter 1 = .ok (.invokestatic 30, 3) := by decide +kernel
theorem dX0_isBetter_4 : decode cX0_isBetter 4 = .ok (.istore_n 3, 1) := by decide +kernel
theorem dX0_isBetter_5 : decode cX0_isBetter 5 = .ok (.iload_n 2, 1) := by decide +kernel
theorem dX0_isBetter_6 : decode cX0_isBetter 6 = .ok (.invokestatic 30, 3) := by decide +kernel
theorem dX0_isBetter_9 : decode cX0_isBetter 9 = .ok (.istore 4, 2) := by decide +kernel
theorem dX0_isBetter_11 : decode cX0_isBetter 11 = .ok (.iload_n 3, 1) := by decide +kernel
theorem dX0_isBetter_12 : decode cX0_isBetter 12 = .ok (.iload 4, 2) := by decide +kernel
theorem dX0_isBetter_14 : decode cX0_isBetter 14 = .ok (.if_icmp .eq 15, 3) := by decide +kernel
theorem dX0_isBetter_17 : decode cX0_isBetter 17 = .ok (.iload_n 3, 1) := by decide +kernel
theorem dX0_isBetter_18 : decode cX0_isBetter 18 = .ok (.iload 4, 2) := by decide +kernel
theorem dX0_isBetter_20 : decode cX0_isBetter 20 = .ok (.if_icmp .ge 7, 3) := by decide +kernel
theorem dX0_isBetter_23 : decode cX0_isBetter 23 = .ok (.iconst 1, 1) := by decide +kernel
theorem dX0_isBetter_24 : decode cX0_isBetter 24 = .ok (.goto 4, 3) := by decide +kernel
theorem dX0_isBetter_27 : decode cX0_isBetter 27 = .ok (.iconst 0, 1) := by decide +kernel
theorem dX0_isBetter_28 : decode cX0_isBetter 28 = .ok (.ireturn, 1) := by decide +kernel
theorem dX0_isBetter_29 : decode cX0_isBetter 29 = .ok (.iload_n 1, 1) := by decide +kernel
theorem dX0_isBetter_30 : decode cX0_isBetter 30 = .ok (.aload_n 0, 1) := by decide +kernel
theorem dX0_isBetter_31 : decode cX0_isBetter 31 = .ok (.getfield 15, 3) := by decide +kernel
theorem dX0_isBetter_34 : decode cX0_isBetter 34 = .ok (.iand, 1) := by decide +kernel
theorem dX0_isBetter_35 : decode cX0_isBetter 35 = .ok (.invokestatic 30, 3) := by decide +kernel
theorem dX0_isBetter_38 : decode cX0_isBetter 38 = .ok (.istore 5, 2) := by decide +kernel
theorem dX0_isBetter_40 : decode cX0_isBetter 40 = .ok (.iload_n 2, 1) := by decide +kernel
theorem dX0_isBetter_41 : decode cX0_isBetter 41 = .ok (.aload_n 0, 1) := by decide +kernel
theorem dX0_isBetter_42 : decode cX0_isBetter 42 = .ok (.getfield 15, 3) := by decide +kernel
theorem dX0_isBetter_45 : decode cX0_isBetter 45 = .ok (.iand, 1) := by decide +kernel
theorem dX0_isBetter_46 : decode cX0_isBetter 46 = .ok (.invokestatic 30, 3) := by decide +kernel
theorem dX0_isBetter_49 : decode cX0_isBetter 49 = .ok (.istore 6, 2) := by decide +kernel
theorem dX0_isBetter_51 : decode cX0_isBetter 51 = .ok (.iload 5, 2) := by decide +kernel
theorem dX0_isBetter_53 : decode cX0_isBetter 53 = .ok (.iload 6, 2) := by decide +kernel
theorem dX0_isBetter_55 : decode cX0_isBetter 55 = .ok (.if_icmp .eq 16, 3) := by decide +kernel
theorem dX0_isBetter_58 : decode cX0_isBetter 58 = .ok (.iload 5, 2) := by decide +kernel
theorem dX0_isBetter_60 : decode cX0_isBetter 60 = .ok (.iload 6, 2) := by decide +kernel
theorem dX0_isBetter_62 : decode cX0_isBetter 62 = .ok (.if_icmp .le 7, 3) := by decide +kernel
theorem dX0_isBetter_65 : decode cX0_isBetter 65 = .ok (.iconst 1, 1) := by decide +kernel
theorem dX0_isBetter_66 : decode cX0_isBetter 66 = .ok (.goto 4, 3) := by decide +kernel
theorem dX0_isBetter_69 : decode cX0_isBetter 69 = .ok (.iconst 0, 1) := by decide +kernel
theorem dX0_isBetter_70 : decode cX0_isBetter 70 = .ok (.ireturn, 1) := by decide +kernel
theorem dX0_isBetter_71 : decode cX0_isBetter 71 = .ok (.iload_n 1, 1) := by decide +kernel
theorem dX0_isBetter_72 : decode cX0_isBetter 72 = .ok (.iload_n 2, 1) := by decide +kernel
theorem dX0_isBetter_73 : decode cX0_isBetter 73 = .ok (.ixor, 1) := by decide +kernel
theorem dX0_isBetter_74 : decode cX0_isBetter 74 = .ok (.iconst 0, 1) := by decide +kernel
theorem dX0_isBetter_75 : decode cX0_isBetter 75 = .ok (.invokestatic 55, 3) := by decide +kernel
theorem dX0_isBetter_78 : decode cX0_isBetter 78 = .ok (.istore 7, 2) := by decide +kernel
theorem dX0_isBetter_80 : decode cX0_isBetter 80 = .ok (.iload 7, 2) := by decide +kernel
theorem dX0_isBetter_82 : decode cX0_isBetter 82 = .ok (.iconst (-1), 1) := by decide +kernel
theorem dX0_isBetter_83 : decode cX0_isBetter 83 = .ok (.if_icmp .eq 16, 3) := by decide +kernel
theorem dX0_isBetter_86 : decode cX0_isBetter 86 = .ok (.iload_n 1, 1) := by decide +kernel
theorem dX0_isBetter_87 : decode cX0_isBetter 87 = .ok (.iload 7, 2) := by decide +kernel
theorem dX0_isBetter_89 : decode cX0_isBetter 89 = .ok (.invokestatic 52, 3) := by decide +kernel
theorem dX0_isBetter_92 : decode cX0_isBetter 92 = .ok (.ifCond .eq 7, 3) := by decide +kernel
theorem dX0_isBetter_95 : decode cX0_isBetter 95 = .ok (.iconst 1, 1) := by decide +kernel
theorem dX0_isBetter_96 : decode cX0_isBetter 96 = .ok (.goto 4, 3) := by decide +kernel
theorem dX0_isBetter_99 : decode cX0_isBetter 99 = .ok (.iconst 0, 1) := by decide +kernel
theorem dX0_isBetter_100 : decode cX0_isBetter 100 = .ok (.ireturn, 1) := by decide +kernel
theorem dX0_explainsAll_0 : decode cX0_explainsAll 0 = .ok (.iconst 0, 1) := by decide +kernel
theorem dX0_explainsAll_1 : decode cX0_explainsAll 1 = .ok (.istore_n 2, 1) := by decide +kernel
theorem dX0_explainsAll_2 : decode cX0_explainsAll 2 = .ok (.iload_n 2, 1) := by decide +kernel
theorem dX0_explainsAll_3 : decode cX0_explainsAll 3 = .ok (.bipush 14, 2) := by decide +kernel
theorem dX0_explainsAll_5 : decode cX0_explainsAll 5 = .ok (.if_icmp .ge 35, 3) := by decide +kernel
theorem dX0_explainsAll_8 : decode cX0_explainsAll 8 = .ok (.aload_n 0, 1) := by decide +kernel
theorem dX0_explainsAll_9 : decode cX0_explainsAll 9 = .ok (.getfield 15, 3) := by decide +kernel
theorem dX0_explainsAll_12 : decode cX0_explainsAll 12 = .ok (.iload_n 2, 1) := by decide +kernel
theorem dX0_explainsAll_13 : decode cX0_explainsAll 13 = .ok (.invokestatic 52, 3) := by decide +kernel
theorem dX0_explainsAll_16 : decode cX0_explainsAll 16 = .ok (.ifCond .eq 18, 3) := by decide +kernel
theorem dX0_explainsAll_19 : decode cX0_explainsAll 19 = .ok (.aload_n 0, 1) := by decide +kernel
theorem dX0_explainsAll_20 : decode cX0_explainsAll 20 = .ok (.getfield 9, 3) := by decide +kernel
theorem dX0_explainsAll_23 : decode cX0_explainsAll 23 = .ok (.iload_n 2, 1) := by decide +kernel
theorem dX0_explainsAll_24 : decode cX0_explainsAll 24 = .ok (.invokevirtual 59, 3) := by decide +kernel
theorem dX0_explainsAll_27 : decode cX0_explainsAll 27 = .ok (.iload_n 1, 1) := by decide +kernel
theorem dX0_explainsAll_28 : decode cX0_explainsAll 28 = .ok (.iand, 1) := by decide +kernel
theorem dX0_explainsAll_29 : decode cX0_explainsAll 29 = .ok (.ifCond .ne 5, 3) := by decide +kernel
theorem dX0_explainsAll_32 : decode cX0_explainsAll 32 = .ok (.iconst 0, 1) := by decide +kernel
theorem dX0_explainsAll_33 : decode cX0_explainsAll 33 = .ok (.ireturn, 1) := by decide +kernel
theorem dX0_explainsAll_34 : decode cX0_explainsAll 34 = .ok (.iinc 2 1, 3) := by decide +kernel
theorem dX0_explainsAll_37 : decode cX0_explainsAll 37 = .ok (.goto (-35), 3) := by decide +kernel
theorem dX0_explainsAll_40 : decode cX0_explainsAll 40 = .ok (.iconst 1, 1) := by decide +kernel
theorem dX0_explainsAll_41 : decode cX0_explainsAll 41 = .ok (.ireturn, 1) := by decide +kernel
theorem dX0_plausibleOf_0 : decode cX0_plausibleOf 0 = .ok (.iload_n 1, 1) := by decide +kernel
theorem dX0_plausibleOf_1 : decode cX0_plausibleOf 1 = .ok (.istore_n 2, 1) := by decide +kernel
theorem dX0_plausibleOf_2 : decode cX0_plausibleOf 2 = .ok (.iconst 0, 1) := by decide +kernel
theorem dX0_plausibleOf_3 : decode cX0_plausibleOf 3 = .ok (.istore_n 3, 1) := by decide +kernel
theorem dX0_plausibleOf_4 : decode cX0_plausibleOf 4 = .ok (.iload_n 3, 1) := by decide +kernel
theorem dX0_plausibleOf_5 : decode cX0_plausibleOf 5 = .ok (.bipush 14, 2) := by decide +kernel
theorem dX0_plausibleOf_7 : decode cX0_plausibleOf 7 = .ok (.if_icmp .ge 37, 3) := by decide +kernel
theorem dX0_plausibleOf_10 : decode cX0_plausibleOf 10 = .ok (.aload_n 0, 1) := by decide +kernel
theorem dX0_plausibleOf_11 : decode cX0_plausibleOf 11 = .ok (.iload_n 3, 1) := by decide +kernel
theorem dX0_plausibleOf_12 : decode cX0_plausibleOf 12 = .ok (.invokevirtual 65, 3) := by decide +kernel
theorem dX0_plausibleOf_15 : decode cX0_plausibleOf 15 = .ok (.istore 4, 2) := by decide +kernel
theorem dX0_plausibleOf_17 : decode cX0_plausibleOf 17 = .ok (.iload 4, 2) := by decide +kernel
theorem dX0_plausibleOf_19 : decode cX0_plausibleOf 19 = .ok (.ifCond .eq 19, 3) := by decide +kernel
theorem dX0_plausibleOf_22 : decode cX0_plausibleOf 22 = .ok (.iload 4, 2) := by decide +kernel
theorem dX0_plausibleOf_24 : decode cX0_plausibleOf 24 = .ok (.iload_n 1, 1) := by decide +kernel
theorem dX0_plausibleOf_25 : decode cX0_plausibleOf 25 = .ok (.iconst (-1), 1) := by decide +kernel
theorem dX0_plausibleOf_26 : decode cX0_plausibleOf 26 = .ok (.ixor, 1) := by decide +kernel
theorem dX0_plausibleOf_27 : decode cX0_plausibleOf 27 = .ok (.iand, 1) := by decide +kernel
theorem dX0_plausibleOf_28 : decode cX0_plausibleOf 28 = .ok (.ifCond .ne 10, 3) := by decide +kernel
theorem dX0_plausibleOf_31 : decode cX0_plausibleOf 31 = .ok (.iload_n 2, 1) := by decide +kernel
theorem dX0_plausibleOf_32 : decode cX0_plausibleOf 32 = .ok (.iload_n 3, 1) := by decide +kernel
theorem dX0_plausibleOf_33 : decode cX0_plausibleOf 33 = .ok (.invokestatic 62, 3) := by decide +kernel
theorem dX0_plausibleOf_36 : decode cX0_plausibleOf 36 = .ok (.ior, 1) := by decide +kernel
theorem dX0_plausibleOf_37 : decode cX0_plausibleOf 37 = .ok (.istore_n 2, 1) := by decide +kernel
theorem dX0_plausibleOf_38 : decode cX0_plausibleOf 38 = .ok (.iinc 3 1, 3) := by decide +kernel
theorem dX0_plausibleOf_41 : decode cX0_plausibleOf 41 = .ok (.goto (-37), 3) := by decide +kernel
theorem dX0_plausibleOf_44 : decode cX0_plausibleOf 44 = .ok (.iload_n 2, 1) := by decide +kernel
theorem dX0_plausibleOf_45 : decode cX0_plausibleOf 45 = .ok (.ireturn, 1) := by decide +kernel
theorem dX1_init_0 : decode cX1_init 0 = .ok (.aload_n 0, 1) := by decide +kernel
theorem dX1_init_1 : decode cX1_init 1 = .ok (.invokespecial 3, 3) := by decide +kernel
theorem dX1_init_4 : decode cX1_init 4 = .ok (.aload_n 0, 1) := by decide +kernel
theorem dX1_init_5 : decode cX1_init 5 = .ok (.bipush 14, 2) := by decide +kernel
theorem dX1_init_7 : decode cX1_init 7 = .ok (.newarray .int, 2) := by decide +kernel
theorem dX1_init_9 : decode cX1_init 9 = .ok (.putfield 9, 3) := by decide +kernel
theorem dX1_init_12 : decode cX1_init 12 = .ok (.aload_n 0, 1) := by decide +kernel
theorem dX1_init_13 : decode cX1_init 13 = .ok (.bipush 14, 2) := by decide +kernel
theorem dX1_init_15 : decode cX1_init 15 = .ok (.newarray .int, 2) := by decide +kernel
theorem dX1_init_17 : decode cX1_init 17 = .ok (.putfield 15, 3) := by decide +kernel
theorem dX1_init_20 : decode cX1_init 20 = .ok (.aload_n 0, 1) := by decide +kernel
theorem dX1_init_21 : decode cX1_init 21 = .ok (.bipush 14, 2) := by decide +kernel
theorem dX1_init_23 : decode cX1_init 23 = .ok (.newarray .int, 2) := by decide +kernel
theorem dX1_init_25 : decode cX1_init 25 = .ok (.putfield 18, 3) := by decide +kernel
theorem dX1_init_28 : decode cX1_init 28 = .ok (.aload_n 0, 1) := by decide +kernel
theorem dX1_init_29 : decode cX1_init 29 = .ok (.bipush 14, 2) := by decide +kernel
theorem dX1_init_31 : decode cX1_init 31 = .ok (.newarray .int, 2) := by decide +kernel
theorem dX1_init_33 : decode cX1_init 33 = .ok (.putfield 21, 3) := by decide +kernel
theorem dX1_init_36 : decode cX1_init 36 = .ok (.return_, 1) := by decide +kernel
theorem dX1_needed_0 : decode cX1_needed 0 = .ok (.aload_n 0, 1) := by decide +kernel
theorem dX1_needed_1 : decode cX1_needed 1 = .ok (.getfield 9, 3) := by decide +kernel
theorem dX1_needed_4 : decode cX1_needed 4 = .ok (.iload_n 1, 1) := by decide +kernel
theorem dX1_needed_5 : decode cX1_needed 5 = .ok (.iaload, 1) := by decide +kernel
theorem dX1_needed_6 : decode cX1_needed 6 = .ok (.ireturn, 1) := by decide +kernel
theorem dX1_users_0 : decode cX1_users 0 = .ok (.aload_n 0, 1) := by decide +kernel
theorem dX1_users_1 : decode cX1_users 1 = .ok (.getfield 15, 3) := by decide +kernel
theorem dX1_users_4 : decode cX1_users 4 = .ok (.iload_n 1, 1) := by decide +kernel
theorem dX1_users_5 : decode cX1_users 5 = .ok (.iaload, 1) := by decide +kernel
theorem dX1_users_6 : decode cX1_users 6 = .ok (.ireturn, 1) := by decide +kernel
theorem dX1_below_0 : decode cX1_below 0 = .ok (.aload_n 0, 1) := by decide +kernel
theorem dX1_below_1 : decode cX1_below 1 = .ok (.getfield 18, 3) := by decide +kernel
theorem dX1_below_4 : decode cX1_below 4 = .ok (.iload_n 1, 1) := by decide +kernel
theorem dX1_below_5 : decode cX1_below 5 = .ok (.iaload, 1) := by decide +kernel
theorem dX1_below_6 : decode cX1_below 6 = .ok (.ireturn, 1) := by decide +kernel
theorem dX1_above_0 : decode cX1_above 0 = .ok (.aload_n 0, 1) := by decide +kernel
theorem dX1_above_1 : decode cX1_above 1 = .ok (.getfield 21, 3) := by decide +kernel
theorem dX1_above_4 : decode cX1_above 4 = .ok (.iload_n 1, 1) := by decide +kernel
theorem dX1_above_5 : decode cX1_above 5 = .ok (.iaload, 1) := by decide +kernel
theorem dX1_above_6 : decode cX1_above 6 = .ok (.ireturn, 1) := by decide +kernel
theorem dX1_explainersOf_0 : decode cX1_explainersOf 0 = .ok (.iload_n 1, 1) := by decide +kernel
theorem dX1_explainersOf_1 : decode cX1_explainersOf 1 = .ok (.invokestatic 24, 3) := by decide +kernel
theorem dX1_explainersOf_4 : decode cX1_explainersOf 4 = .ok (.aload_n 0, 1) := by decide +kernel
theorem dX1_explainersOf_5 : decode cX1_explainersOf 5 = .ok (.getfield 18, 3) := by decide +kernel
theorem dX1_explainersOf_8 : decode cX1_explainersOf 8 = .ok (.iload_n 1, 1) := by decide +kernel
theorem dX1_explainersOf_9 : decode cX1_explainersOf 9 = .ok (.iaload, 1) := by decide +kernel
theorem dX1_explainersOf_10 : decode cX1_explainersOf 10 = .ok (.ior, 1) := by decide +kernel
theorem dX1_explainersOf_11 : decode cX1_explainersOf 11 = .ok (.ireturn, 1) := by decide +kernel
theorem dX1_explainedBy_0 : decode cX1_explainedBy 0 = .ok (.iload_n 1, 1) := by decide +kernel
theorem dX1_explainedBy_1 : decode cX1_explainedBy 1 = .ok (.invokestatic 24, 3) := by decide +kernel
theorem dX1_explainedBy_4 : decode cX1_explainedBy 4 = .ok (.aload_n 0, 1) := by decide +kernel
theorem dX1_explainedBy_5 : decode cX1_explainedBy 5 = .ok (.getfield 21, 3) := by decide +kernel
theorem dX1_explainedBy_8 : decode cX1_explainedBy 8 = .ok (.iload_n 1, 1) := by decide +kernel
theorem dX1_explainedBy_9 : decode cX1_explainedBy 9 = .ok (.iaload, 1) := by decide +kernel
theorem dX1_explainedBy_10 : decode cX1_explainedBy 10 = .ok (.ior, 1) := by decide +kernel
theorem dX1_explainedBy_11 : decode cX1_explainedBy 11 = .ok (.ireturn, 1) := by decide +kernel
theorem dX1_link_0 : decode cX1_link 0 = .ok (.aload_n 0, 1) := by decide +kernel
theorem dX1_link_1 : decode cX1_link 1 = .ok (.getfield 9, 3) := by decide +kernel
theorem dX1_link_4 : decode cX1_link 4 = .ok (.iload_n 1, 1) := by decide +kernel
theorem dX1_link_5 : decode cX1_link 5 = .ok (.iaload, 1) := by decide +kernel
theorem dX1_link_6 : decode cX1_link 6 = .ok (.iload_n 2, 1) := by decide +kernel
theorem dX1_link_7 : decode cX1_link 7 = .ok (.invokestatic 28, 3) := by decide +kernel
theorem dX1_link_10 : decode cX1_link 10 = .ok (.ifCond .eq 5, 3) := by decide +kernel
theorem dX1_link_13 : decode cX1_link 13 = .ok (.iconst 0, 1) := by decide +kernel
theorem dX1_link_14 : decode cX1_link 14 = .ok (.ireturn, 1) := by decide +kernel
theorem dX1_link_15 : decode cX1_link 15 = .ok (.aload_n 0, 1) := by decide +kernel
theorem dX1_link_16 : decode cX1_link 16 = .ok (.getfield 9, 3) := by decide +kernel
theorem dX1_link_19 : decode cX1_link 19 = .ok (.iload_n 1, 1) := by decide +kernel
theorem dX1_link_20 : decode cX1_link 20 = .ok (.dup2, 1) := by decide +kernel
theorem dX1_link_21 : decode cX1_link 21 = .ok (.iaload, 1) := by decide +kernel
theorem dX1_link_22 : decode cX1_link 22 = .ok (.iload_n 2, 1) := by decide +kernel
theorem dX1_link_23 : decode cX1_link 23 = .ok (.invokestatic 24, 3) := by decide +kernel
theorem dX1_link_26 : decode cX1_link 26 = .ok (.ior, 1) := by decide +kernel
theorem dX1_link_27 : decode cX1_link 27 = .ok (.iastore, 1) := by decide +kernel
theorem dX1_link_28 : decode cX1_link 28 = .ok (.aload_n 0, 1) := by decide +kernel
theorem dX1_link_29 : decode cX1_link 29 = .ok (.getfield 15, 3) := by decide +kernel
theorem dX1_link_32 : decode cX1_link 32 = .ok (.iload_n 2, 1) := by decide +kernel
theorem dX1_link_33 : decode cX1_link 33 = .ok (.dup2, 1) := by decide +kernel
theorem dX1_link_34 : decode cX1_link 34 = .ok (.iaload, 1) := by decide +kernel
theorem dX1_link_35 : decode cX1_link 35 = .ok (.iload_n 1, 1) := by decide +kernel
theorem dX1_link_36 : decode cX1_link 36 = .ok (.invokestatic 24, 3) := by decide +kernel
theorem dX1_link_39 : decode cX1_link 39 = .ok (.ior, 1) := by decide +kernel
theorem dX1_link_40 : decode cX1_link 40 = .ok (.iastore, 1) := by decide +kernel
theorem dX1_link_41 : decode cX1_link 41 = .ok (.aload_n 0, 1) := by decide +kernel
theorem dX1_link_42 : decode cX1_link 42 = .ok (.invokevirtual 32, 3) := by decide +kernel
theorem dX1_link_45 : decode cX1_link 45 = .ok (.iconst 1, 1) := by decide +kernel
theorem dX1_link_46 : decode cX1_link 46 = .ok (.ireturn, 1) := by decide +kernel
theorem dX1_unlink_0 : decode cX1_unlink 0 = .ok (.aload_n 0, 1) := by decide +kernel
theorem dX1_unlink_1 : decode cX1_unlink 1 = .ok (.getfield 9, 3) := by decide +kernel
theorem dX1_unlink_4 : decode cX1_unlink 4 = .ok (.iload_n 1, 1) := by decide +kernel
theorem dX1_unlink_5 : decode cX1_unlink 5 = .ok (.iaload, 1) := by decide +kernel
theorem dX1_unlink_6 : decode cX1_unlink 6 = .ok (.iload_n 2, 1) := by decide +kernel
theorem dX1_unlink_7 : decode cX1_unlink 7 = .ok (.invokestatic 28, 3) := by decide +kernel
theorem dX1_unlink_10 : decode cX1_unlink 10 = .ok (.ifCond .ne 5, 3) := by decide +kernel
theorem dX1_unlink_13 : decode cX1_unlink 13 = .ok (.iconst 0, 1) := by decide +kernel
theorem dX1_unlink_14 : decode cX1_unlink 14 = .ok (.ireturn, 1) := by decide +kernel
theorem dX1_unlink_15 : decode cX1_unlink 15 = .ok (.aload_n 0, 1) := by decide +kernel
theorem dX1_unlink_16 : decode cX1_unlink 16 = .ok (.getfield 9, 3) := by decide +kernel
theorem dX1_unlink_19 : decode cX1_unlink 19 = .ok (.iload_n 1, 1) := by decide +kernel
theorem dX1_unlink_20 : decode cX1_unlink 20 = .ok (.dup2, 1) := by decide +kernel
theorem dX1_unlink_21 : decode cX1_unlink 21 = .ok (.iaload, 1) := by decide +kernel
theorem dX1_unlink_22 : decode cX1_unlink 22 = .ok (.iload_n 2, 1) := by decide +kernel
theorem dX1_unlink_23 : decode cX1_unlink 23 = .ok (.invokestatic 24, 3) := by decide +kernel
theorem dX1_unlink_26 : decode cX1_unlink 26 = .ok (.iconst (-1), 1) := by decide +kernel
theorem dX1_unlink_27 : decode cX1_unlink 27 = .ok (.ixor, 1) := by decide +kernel
theorem dX1_unlink_28 : decode cX1_unlink 28 = .ok (.iand, 1) := by decide +kernel
theorem dX1_unlink_29 : decode cX1_unlink 29 = .ok (.iastore, 1) := by decide +kernel
theorem dX1_unlink_30 : decode cX1_unlink 30 = .ok (.aload_n 0, 1) := by decide +kernel
theorem dX1_unlink_31 : decode cX1_unlink 31 = .ok (.getfield 15, 3) := by decide +kernel
theorem dX1_unlink_34 : decode cX1_unlink 34 = .ok (.iload_n 2, 1) := by decide +kernel
theorem dX1_unlink_35 : decode cX1_unlink 35 = .ok (.dup2, 1) := by decide +kernel
theorem dX1_unlink_36 : decode cX1_unlink 36 = .ok (.iaload, 1) := by decide +kernel
theorem dX1_unlink_37 : decode cX1_unlink 37 = .ok (.iload_n 1, 1) := by decide +kernel
theorem dX1_unlink_38 : decode cX1_unlink 38 = .ok (.invokestatic 24, 3) := by decide +kernel
theorem dX1_unlink_41 : decode cX1_unlink 41 = .ok (.iconst (-1), 1) := by decide +kernel
theorem dX1_unlink_42 : decode cX1_unlink 42 = .ok (.ixor, 1) := by decide +kernel
theorem dX1_unlink_43 : decode cX1_unlink 43 = .ok (.iand, 1) := by decide +kernel
theorem dX1_unlink_44 : decode cX1_unlink 44 = .ok (.iastore, 1) := by decide +kernel
theorem dX1_unlink_45 : decode cX1_unlink 45 = .ok (.aload_n 0, 1) := by decide +kernel
theorem dX1_unlink_46 : decode cX1_unlink 46 = .ok (.invokevirtual 32, 3) := by decide +kernel
theorem dX1_unlink_49 : decode cX1_unlink 49 = .ok (.iconst 1, 1) := by decide +kernel
theorem dX1_unlink_50 : decode cX1_unlink 50 = .ok (.ireturn, 1) := by decide +kernel
theorem dX1_longestWayDown_0 : decode cX1_longestWayDown 0 = .ok (.iconst 0, 1) := by decide +kernel
theorem dX1_longestWayDown_1 : decode cX1_longestWayDown 1 = .ok (.istore_n 2, 1) := by decide +kernel
theorem dX1_longestWayDown_2 : decode cX1_longestWayDown 2 = .ok (.aload_n 0, 1) := by decide +kernel
theorem dX1_longestWayDown_3 : decode cX1_longestWayDown 3 = .ok (.getfield 9, 3) := by decide +kernel
theorem dX1_longestWayDown_6 : decode cX1_longestWayDown 6 = .ok (.iload_n 1, 1) := by decide +kernel
theorem dX1_longestWayDown_7 : decode cX1_longestWayDown 7 = .ok (.invokestatic 24, 3) := by decide +kernel
theorem dX1_longestWayDown_10 : decode cX1_longestWayDown 10 = .ok (.invokestatic 35, 3) := by decide +kernel
theorem dX1_longestWayDown_13 : decode cX1_longestWayDown 13 = .ok (.istore_n 3, 1) := by decide +kernel
theorem dX1_longestWayDown_14 : decode cX1_longestWayDown 14 = .ok (.iload_n 3, 1) := by decide +kernel
theorem dX1_longestWayDown_15 : decode cX1_longestWayDown 15 = .ok (.ifCond .eq 24, 3) := by decide +kernel
theorem dX1_longestWayDown_18 : decode cX1_longestWayDown 18 = .ok (.iload_n 2, 1) := by decide +kernel
theorem dX1_longestWayDown_19 : decode cX1_longestWayDown 19 = .ok (.bipush 14, 2) := by decide +kernel
theorem dX1_longestWayDown_21 : decode cX1_longestWayDown 21 = .ok (.if_icmp .ge 18, 3) := by decide +kernel
theorem dX1_longestWayDown_24 : decode cX1_longestWayDown 24 = .ok (.iinc 2 1, 3) := by decide +kernel
theorem dX1_longestWayDown_27 : decode cX1_longestWayDown 27 = .ok (.aload_n 0, 1) := by decide +kernel
theorem dX1_longestWayDown_28 : decode cX1_longestWayDown 28 = .ok (.getfield 9, 3) := by decide +kernel
theorem dX1_longestWayDown_31 : decode cX1_longestWayDown 31 = .ok (.iload_n 3, 1) := by decide +kernel
theorem dX1_longestWayDown_32 : decode cX1_longestWayDown 32 = .ok (.invokestatic 35, 3) := by decide +kernel
theorem dX1_longestWayDown_35 : decode cX1_longestWayDown 35 = .ok (.istore_n 3, 1) := by decide +kernel
theorem dX1_longestWayDown_36 : decode cX1_longestWayDown 36 = .ok (.goto (-22), 3) := by decide +kernel
theorem dX1_longestWayDown_39 : decode cX1_longestWayDown 39 = .ok (.iload_n 2, 1) := by decide +kernel
theorem dX1_longestWayDown_40 : decode cX1_longestWayDown 40 = .ok (.ireturn, 1) := by decide +kernel
theorem dX1_followAll_0 : decode cX1_followAll 0 = .ok (.iconst 0, 1) := by decide +kernel
theorem dX1_followAll_1 : decode cX1_followAll 1 = .ok (.istore_n 1, 1) := by decide +kernel
theorem dX1_followAll_2 : decode cX1_followAll 2 = .ok (.iload_n 1, 1) := by decide +kernel
theorem dX1_followAll_3 : decode cX1_followAll 3 = .ok (.bipush 14, 2) := by decide +kernel
theorem dX1_followAll_5 : decode cX1_followAll 5 = .ok (.if_icmp .ge 37, 3) := by decide +kernel
theorem dX1_followAll_8 : decode cX1_followAll 8 = .ok (.aload_n 0, 1) := by decide +kernel
theorem dX1_followAll_9 : decode cX1_followAll 9 = .ok (.getfield 18, 3) := by decide +kernel
theorem dX1_followAll_12 : decode cX1_followAll 12 = .ok (.iload_n 1, 1) := by decide +kernel
theorem dX1_followAll_13 : decode cX1_followAll 13 = .ok (.aload_n 0, 1) := by decide +kernel
theorem dX1_followAll_14 : decode cX1_followAll 14 = .ok (.getfield 9, 3) := by decide +kernel
theorem dX1_followAll_17 : decode cX1_followAll 17 = .ok (.iload_n 1, 1) := by decide +kernel
theorem dX1_followAll_18 : decode cX1_followAll 18 = .ok (.invokestatic 39, 3) := by decide +kernel
theorem dX1_followAll_21 : decode cX1_followAll 21 = .ok (.iastore, 1) := by decide +kernel
theorem dX1_followAll_22 : decode cX1_followAll 22 = .ok (.aload_n 0, 1) := by decide +kernel
theorem dX1_followAll_23 : decode cX1_followAll 23 = .ok (.getfield 21, 3) := by decide +kernel
theorem dX1_followAll_26 : decode cX1_followAll 26 = .ok (.iload_n 1, 1) := by decide +kernel
theorem dX1_followAll_27 : decode cX1_followAll 27 = .ok (.aload_n 0, 1) := by decide +kernel
theorem dX1_followAll_28 : decode cX1_followAll 28 = .ok (.getfield 15, 3) := by decide +kernel
theorem dX1_followAll_31 : decode cX1_followAll 31 = .ok (.iload_n 1, 1) := by decide +kernel
theorem dX1_followAll_32 : decode cX1_followAll 32 = .ok (.invokestatic 39, 3) := by decide +kernel
theorem dX1_followAll_35 : decode cX1_followAll 35 = .ok (.iastore, 1) := by decide +kernel
theorem dX1_followAll_36 : decode cX1_followAll 36 = .ok (.iinc 1 1, 3) := by decide +kernel
theorem dX1_followAll_39 : decode cX1_followAll 39 = .ok (.goto (-37), 3) := by decide +kernel
theorem dX1_followAll_42 : decode cX1_followAll 42 = .ok (.return_, 1) := by decide +kernel
theorem dX1_follow_0 : decode cX1_follow 0 = .ok (.iconst 0, 1) := by decide +kernel
theorem dX1_follow_1 : decode cX1_follow 1 = .ok (.istore_n 2, 1) := by decide +kernel
theorem dX1_follow_2 : decode cX1_follow 2 = .ok (.iload_n 1, 1) := by decide +kernel
theorem dX1_follow_3 : decode cX1_follow 3 = .ok (.invokestatic 24, 3) := by decide +kernel
theorem dX1_follow_6 : decode cX1_follow 6 = .ok (.istore_n 3, 1) := by decide +kernel
theorem dX1_follow_7 : decode cX1_follow 7 = .ok (.iconst 0, 1) := by decide +kernel
theorem dX1_follow_8 : decode cX1_follow 8 = .ok (.istore 4, 2) := by decide +kernel
theorem dX1_follow_10 : decode cX1_follow 10 = .ok (.iload 4, 2) := by decide +kernel
theorem dX1_follow_12 : decode cX1_follow 12 = .ok (.bipush 14, 2) := by decide +kernel
theorem dX1_follow_14 : decode cX1_follow 14 = .ok (.if_icmp .ge 23, 3) := by decide +kernel
theorem dX1_follow_17 : decode cX1_follow 17 = .ok (.iload_n 3, 1) := by decide +kernel
theorem dX1_follow_18 : decode cX1_follow 18 = .ok (.ifCond .eq 19, 3) := by decide +kernel
theorem dX1_follow_21 : decode cX1_follow 21 = .ok (.aload_n 0, 1) := by decide +kernel
theorem dX1_follow_22 : decode cX1_follow 22 = .ok (.iload_n 3, 1) := by decide +kernel
theorem dX1_follow_23 : decode cX1_follow 23 = .ok (.invokestatic 35, 3) := by decide +kernel
theorem dX1_follow_26 : decode cX1_follow 26 = .ok (.istore_n 3, 1) := by decide +kernel
theorem dX1_follow_27 : decode cX1_follow 27 = .ok (.iload_n 2, 1) := by decide +kernel
theorem dX1_follow_28 : decode cX1_follow 28 = .ok (.iload_n 3, 1) := by decide +kernel
theorem dX1_follow_29 : decode cX1_follow 29 = .ok (.ior, 1) := by decide +kernel
theorem dX1_follow_30 : decode cX1_follow 30 = .ok (.istore_n 2, 1) := by decide +kernel
theorem dX1_follow_31 : decode cX1_follow 31 = .ok (.iinc 4 1, 3) := by decide +kernel
theorem dX1_follow_34 : decode cX1_follow 34 = .ok (.goto (-24), 3) := by decide +kernel
theorem dX1_follow_37 : decode cX1_follow 37 = .ok (.iload_n 2, 1) := by decide +kernel
theorem dX1_follow_38 : decode cX1_follow 38 = .ok (.ireturn, 1) := by decide +kernel
theorem dX1_step_0 : decode cX1_step 0 = .ok (.iconst 0, 1) := by decide +kernel
theorem dX1_step_1 : decode cX1_step 1 = .ok (.istore_n 2, 1) := by decide +kernel
theorem dX1_step_2 : decode cX1_step 2 = .ok (.iconst 0, 1) := by decide +kernel
theorem dX1_step_3 : decode cX1_step 3 = .ok (.istore_n 3, 1) := by decide +kernel
theorem dX1_step_4 : decode cX1_step 4 = .ok (.iload_n 3, 1) := by decide +kernel
theorem dX1_step_5 : decode cX1_step 5 = .ok (.bipush 14, 2) := by decide +kernel
theorem dX1_step_7 : decode cX1_step 7 = .ok (.if_icmp .ge 23, 3) := by decide +kernel
end
section
theorem dX1_step_10 : decode cX1_step 10 = .ok (.iload_n 1, 1) := by decide +kernel
theorem dX1_step_11 : decode cX1_step 11 = .ok (.iload_n 3, 1) := by decide +kernel
theorem dX1_step_12 : decode cX1_step 12 = .ok (.invokestatic 28, 3) := by decide +kernel
theorem dX1_step_15 : decode cX1_step 15 = .ok (.ifCond .eq 9, 3) := by decide +kernel
theorem dX1_step_18 : decode cX1_step 18 = .ok (.iload_n 2, 1) := by decide +kernel
theorem dX1_step_19 : decode cX1_step 19 = .ok (.aload_n 0, 1) := by decide +kernel
theorem dX1_step_20 : decode cX1_step 20 = .ok (.iload_n 3, 1) := by decide +kernel
theorem dX1_step_21 : decode cX1_step 21 = .ok (.iaload, 1) := by decide +kernel
theorem dX1_step_22 : decode cX1_step 22 = .ok (.ior, 1) := by decide +kernel
theorem dX1_step_23 : decode cX1_step 23 = .ok (.istore_n 2, 1) := by decide +kernel
theorem dX1_step_24 : decode cX1_step 24 = .ok (.iinc 3 1, 3) := by decide +kernel
theorem dX1_step_27 : decode cX1_step 27 = .ok (.goto (-23), 3) := by decide +kernel
theorem dX1_step_30 : decode cX1_step 30 = .ok (.iload_n 2, 1) := by decide +kernel
theorem dX1_step_31 : decode cX1_step 31 = .ok (.ireturn, 1) := by decide +kernel
theorem dX2_init_0 : decode cX2_init 0 = .ok (.aload_n 0, 1) := by decide +kernel
theorem dX2_init_1 : decode cX2_init 1 = .ok (.invokespecial 3, 3) := by decide +kernel
theorem dX2_init_4 : decode cX2_init 4 = .ok (.aload_n 0, 1) := by decide +kernel
theorem dX2_init_5 : decode cX2_init 5 = .ok (.sipush 300, 3) := by decide +kernel
theorem dX2_init_8 : decode cX2_init 8 = .ok (.newarray .int, 2) := by decide +kernel
theorem dX2_init_10 : decode cX2_init 10 = .ok (.putfield 9, 3) := by decide +kernel
theorem dX2_init_13 : decode cX2_init 13 = .ok (.aload_n 0, 1) := by decide +kernel
theorem dX2_init_14 : decode cX2_init 14 = .ok (.sipush 300, 3) := by decide +kernel
theorem dX2_init_17 : decode cX2_init 17 = .ok (.newarray .int, 2) := by decide +kernel
theorem dX2_init_19 : decode cX2_init 19 = .ok (.putfield 15, 3) := by decide +kernel
theorem dX2_init_22 : decode cX2_init 22 = .ok (.aload_n 0, 1) := by decide +kernel
theorem dX2_init_23 : decode cX2_init 23 = .ok (.sipush 300, 3) := by decide +kernel
theorem dX2_init_26 : decode cX2_init 26 = .ok (.newarray .int, 2) := by decide +kernel
theorem dX2_init_28 : decode cX2_init 28 = .ok (.putfield 18, 3) := by decide +kernel
theorem dX2_init_31 : decode cX2_init 31 = .ok (.aload_n 0, 1) := by decide +kernel
theorem dX2_init_32 : decode cX2_init 32 = .ok (.sipush 300, 3) := by decide +kernel
theorem dX2_init_35 : decode cX2_init 35 = .ok (.newarray .int, 2) := by decide +kernel
theorem dX2_init_37 : decode cX2_init 37 = .ok (.putfield 21, 3) := by decide +kernel
theorem dX2_init_40 : decode cX2_init 40 = .ok (.aload_n 0, 1) := by decide +kernel
theorem dX2_init_41 : decode cX2_init 41 = .ok (.bipush 14, 2) := by decide +kernel
theorem dX2_init_43 : decode cX2_init 43 = .ok (.newarray .int, 2) := by decide +kernel
theorem dX2_init_45 : decode cX2_init 45 = .ok (.putfield 24, 3) := by decide +kernel
theorem dX2_init_48 : decode cX2_init 48 = .ok (.aload_n 0, 1) := by decide +kernel
theorem dX2_init_49 : decode cX2_init 49 = .ok (.iconst 0, 1) := by decide +kernel
theorem dX2_init_50 : decode cX2_init 50 = .ok (.putfield 27, 3) := by decide +kernel
theorem dX2_init_53 : decode cX2_init 53 = .ok (.return_, 1) := by decide +kernel
theorem dX2_isFull_0 : decode cX2_isFull 0 = .ok (.aload_n 0, 1) := by decide +kernel
theorem dX2_isFull_1 : decode cX2_isFull 1 = .ok (.getfield 27, 3) := by decide +kernel
theorem dX2_isFull_4 : decode cX2_isFull 4 = .ok (.sipush 300, 3) := by decide +kernel
theorem dX2_isFull_7 : decode cX2_isFull 7 = .ok (.if_icmp .lt 7, 3) := by decide +kernel
theorem dX2_isFull_10 : decode cX2_isFull 10 = .ok (.iconst 1, 1) := by decide +kernel
theorem dX2_isFull_11 : decode cX2_isFull 11 = .ok (.goto 4, 3) := by decide +kernel
theorem dX2_isFull_14 : decode cX2_isFull 14 = .ok (.iconst 0, 1) := by decide +kernel
theorem dX2_isFull_15 : decode cX2_isFull 15 = .ok (.ireturn, 1) := by decide +kernel
theorem dX2_count_0 : decode cX2_count 0 = .ok (.aload_n 0, 1) := by decide +kernel
theorem dX2_count_1 : decode cX2_count 1 = .ok (.getfield 27, 3) := by decide +kernel
theorem dX2_count_4 : decode cX2_count 4 = .ok (.ireturn, 1) := by decide +kernel
theorem dX2_addRaise_0 : decode cX2_addRaise 0 = .ok (.aload_n 0, 1) := by decide +kernel
theorem dX2_addRaise_1 : decode cX2_addRaise 1 = .ok (.getfield 24, 3) := by decide +kernel
theorem dX2_addRaise_4 : decode cX2_addRaise 4 = .ok (.iload_n 1, 1) := by decide +kernel
theorem dX2_addRaise_5 : decode cX2_addRaise 5 = .ok (.iload_n 2, 1) := by decide +kernel
theorem dX2_addRaise_6 : decode cX2_addRaise 6 = .ok (.iastore, 1) := by decide +kernel
theorem dX2_addRaise_7 : decode cX2_addRaise 7 = .ok (.aload_n 0, 1) := by decide +kernel
theorem dX2_addRaise_8 : decode cX2_addRaise 8 = .ok (.iconst 0, 1) := by decide +kernel
theorem dX2_addRaise_9 : decode cX2_addRaise 9 = .ok (.iload_n 1, 1) := by decide +kernel
theorem dX2_addRaise_10 : decode cX2_addRaise 10 = .ok (.iload_n 2, 1) := by decide +kernel
theorem dX2_addRaise_11 : decode cX2_addRaise 11 = .ok (.iconst (-1), 1) := by decide +kernel
theorem dX2_addRaise_12 : decode cX2_addRaise 12 = .ok (.invokevirtual 31, 3) := by decide +kernel
theorem dX2_addRaise_15 : decode cX2_addRaise 15 = .ok (.return_, 1) := by decide +kernel
theorem dX2_addClear_0 : decode cX2_addClear 0 = .ok (.aload_n 0, 1) := by decide +kernel
theorem dX2_addClear_1 : decode cX2_addClear 1 = .ok (.iconst 1, 1) := by decide +kernel
theorem dX2_addClear_2 : decode cX2_addClear 2 = .ok (.iload_n 1, 1) := by decide +kernel
theorem dX2_addClear_3 : decode cX2_addClear 3 = .ok (.iload_n 2, 1) := by decide +kernel
theorem dX2_addClear_4 : decode cX2_addClear 4 = .ok (.iload_n 2, 1) := by decide +kernel
theorem dX2_addClear_5 : decode cX2_addClear 5 = .ok (.aload_n 0, 1) := by decide +kernel
theorem dX2_addClear_6 : decode cX2_addClear 6 = .ok (.getfield 24, 3) := by decide +kernel
theorem dX2_addClear_9 : decode cX2_addClear 9 = .ok (.iload_n 1, 1) := by decide +kernel
theorem dX2_addClear_10 : decode cX2_addClear 10 = .ok (.iaload, 1) := by decide +kernel
theorem dX2_addClear_11 : decode cX2_addClear 11 = .ok (.isub, 1) := by decide +kernel
theorem dX2_addClear_12 : decode cX2_addClear 12 = .ok (.invokevirtual 31, 3) := by decide +kernel
theorem dX2_addClear_15 : decode cX2_addClear 15 = .ok (.return_, 1) := by decide +kernel
theorem dX2_add_0 : decode cX2_add 0 = .ok (.aload_n 0, 1) := by decide +kernel
theorem dX2_add_1 : decode cX2_add 1 = .ok (.getfield 9, 3) := by decide +kernel
theorem dX2_add_4 : decode cX2_add 4 = .ok (.aload_n 0, 1) := by decide +kernel
theorem dX2_add_5 : decode cX2_add 5 = .ok (.getfield 27, 3) := by decide +kernel
theorem dX2_add_8 : decode cX2_add 8 = .ok (.iload_n 1, 1) := by decide +kernel
theorem dX2_add_9 : decode cX2_add 9 = .ok (.iastore, 1) := by decide +kernel
theorem dX2_add_10 : decode cX2_add 10 = .ok (.aload_n 0, 1) := by decide +kernel
theorem dX2_add_11 : decode cX2_add 11 = .ok (.getfield 15, 3) := by decide +kernel
theorem dX2_add_14 : decode cX2_add 14 = .ok (.aload_n 0, 1) := by decide +kernel
theorem dX2_add_15 : decode cX2_add 15 = .ok (.getfield 27, 3) := by decide +kernel
theorem dX2_add_18 : decode cX2_add 18 = .ok (.iload_n 2, 1) := by decide +kernel
theorem dX2_add_19 : decode cX2_add 19 = .ok (.iastore, 1) := by decide +kernel
theorem dX2_add_20 : decode cX2_add 20 = .ok (.aload_n 0, 1) := by decide +kernel
theorem dX2_add_21 : decode cX2_add 21 = .ok (.getfield 18, 3) := by decide +kernel
theorem dX2_add_24 : decode cX2_add 24 = .ok (.aload_n 0, 1) := by decide +kernel
theorem dX2_add_25 : decode cX2_add 25 = .ok (.getfield 27, 3) := by decide +kernel
theorem dX2_add_28 : decode cX2_add 28 = .ok (.iload_n 3, 1) := by decide +kernel
theorem dX2_add_29 : decode cX2_add 29 = .ok (.iastore, 1) := by decide +kernel
theorem dX2_add_30 : decode cX2_add 30 = .ok (.aload_n 0, 1) := by decide +kernel
theorem dX2_add_31 : decode cX2_add 31 = .ok (.getfield 21, 3) := by decide +kernel
theorem dX2_add_34 : decode cX2_add 34 = .ok (.aload_n 0, 1) := by decide +kernel
theorem dX2_add_35 : decode cX2_add 35 = .ok (.getfield 27, 3) := by decide +kernel
theorem dX2_add_38 : decode cX2_add 38 = .ok (.iload 4, 2) := by decide +kernel
theorem dX2_add_40 : decode cX2_add 40 = .ok (.iastore, 1) := by decide +kernel
theorem dX2_add_41 : decode cX2_add 41 = .ok (.aload_n 0, 1) := by decide +kernel
theorem dX2_add_42 : decode cX2_add 42 = .ok (.dup, 1) := by decide +kernel
theorem dX2_add_43 : decode cX2_add 43 = .ok (.getfield 27, 3) := by decide +kernel
theorem dX2_add_46 : decode cX2_add 46 = .ok (.iconst 1, 1) := by decide +kernel
theorem dX2_add_47 : decode cX2_add 47 = .ok (.iadd, 1) := by decide +kernel
theorem dX2_add_48 : decode cX2_add 48 = .ok (.putfield 27, 3) := by decide +kernel
theorem dX2_add_51 : decode cX2_add 51 = .ok (.return_, 1) := by decide +kernel
theorem dX3_init_0 : decode cX3_init 0 = .ok (.aload_n 0, 1) := by decide +kernel
theorem dX3_init_1 : decode cX3_init 1 = .ok (.invokespecial 3, 3) := by decide +kernel
theorem dX3_init_4 : decode cX3_init 4 = .ok (.aload_n 0, 1) := by decide +kernel
theorem dX3_init_5 : decode cX3_init 5 = .ok (.bipush 14, 2) := by decide +kernel
theorem dX3_init_7 : decode cX3_init 7 = .ok (.newarray .int, 2) := by decide +kernel
theorem dX3_init_9 : decode cX3_init 9 = .ok (.putfield 9, 3) := by decide +kernel
theorem dX3_init_12 : decode cX3_init 12 = .ok (.aload_n 0, 1) := by decide +kernel
theorem dX3_init_13 : decode cX3_init 13 = .ok (.sipush 301, 3) := by decide +kernel
theorem dX3_init_16 : decode cX3_init 16 = .ok (.newarray .int, 2) := by decide +kernel
theorem dX3_init_18 : decode cX3_init 18 = .ok (.putfield 15, 3) := by decide +kernel
theorem dX3_init_21 : decode cX3_init 21 = .ok (.aload_n 0, 1) := by decide +kernel
theorem dX3_init_22 : decode cX3_init 22 = .ok (.iconst 0, 1) := by decide +kernel
theorem dX3_init_23 : decode cX3_init 23 = .ok (.putfield 18, 3) := by decide +kernel
theorem dX3_init_26 : decode cX3_init 26 = .ok (.iconst 0, 1) := by decide +kernel
theorem dX3_init_27 : decode cX3_init 27 = .ok (.istore_n 1, 1) := by decide +kernel
theorem dX3_init_28 : decode cX3_init 28 = .ok (.iload_n 1, 1) := by decide +kernel
theorem dX3_init_29 : decode cX3_init 29 = .ok (.bipush 14, 2) := by decide +kernel
theorem dX3_init_31 : decode cX3_init 31 = .ok (.if_icmp .ge 16, 3) := by decide +kernel
theorem dX3_init_34 : decode cX3_init 34 = .ok (.aload_n 0, 1) := by decide +kernel
theorem dX3_init_35 : decode cX3_init 35 = .ok (.getfield 9, 3) := by decide +kernel
theorem dX3_init_38 : decode cX3_init 38 = .ok (.iload_n 1, 1) := by decide +kernel
theorem dX3_init_39 : decode cX3_init 39 = .ok (.iconst (-1), 1) := by decide +kernel
theorem dX3_init_40 : decode cX3_init 40 = .ok (.iastore, 1) := by decide +kernel
theorem dX3_init_41 : decode cX3_init 41 = .ok (.iinc 1 1, 3) := by decide +kernel
theorem dX3_init_44 : decode cX3_init 44 = .ok (.goto (-16), 3) := by decide +kernel
theorem dX3_init_47 : decode cX3_init 47 = .ok (.iconst 0, 1) := by decide +kernel
theorem dX3_init_48 : decode cX3_init 48 = .ok (.istore_n 1, 1) := by decide +kernel
theorem dX3_init_49 : decode cX3_init 49 = .ok (.iload_n 1, 1) := by decide +kernel
theorem dX3_init_50 : decode cX3_init 50 = .ok (.sipush 300, 3) := by decide +kernel
theorem dX3_init_53 : decode cX3_init 53 = .ok (.if_icmp .gt 16, 3) := by decide +kernel
theorem dX3_init_56 : decode cX3_init 56 = .ok (.aload_n 0, 1) := by decide +kernel
theorem dX3_init_57 : decode cX3_init 57 = .ok (.getfield 15, 3) := by decide +kernel
theorem dX3_init_60 : decode cX3_init 60 = .ok (.iload_n 1, 1) := by decide +kernel
theorem dX3_init_61 : decode cX3_init 61 = .ok (.iconst (-1), 1) := by decide +kernel
theorem dX3_init_62 : decode cX3_init 62 = .ok (.iastore, 1) := by decide +kernel
theorem dX3_init_63 : decode cX3_init 63 = .ok (.iinc 1 1, 3) := by decide +kernel
theorem dX3_init_66 : decode cX3_init 66 = .ok (.goto (-17), 3) := by decide +kernel
theorem dX3_init_69 : decode cX3_init 69 = .ok (.return_, 1) := by decide +kernel
theorem dX3_numberOf_0 : decode cX3_numberOf 0 = .ok (.aload_n 0, 1) := by decide +kernel
theorem dX3_numberOf_1 : decode cX3_numberOf 1 = .ok (.getfield 9, 3) := by decide +kernel
theorem dX3_numberOf_4 : decode cX3_numberOf 4 = .ok (.iload_n 1, 1) := by decide +kernel
theorem dX3_numberOf_5 : decode cX3_numberOf 5 = .ok (.iaload, 1) := by decide +kernel
theorem dX3_numberOf_6 : decode cX3_numberOf 6 = .ok (.ireturn, 1) := by decide +kernel
theorem dX3_sizeOf_0 : decode cX3_sizeOf 0 = .ok (.aload_n 0, 1) := by decide +kernel
theorem dX3_sizeOf_1 : decode cX3_sizeOf 1 = .ok (.iload_n 1, 1) := by decide +kernel
theorem dX3_sizeOf_2 : decode cX3_sizeOf 2 = .ok (.invokevirtual 22, 3) := by decide +kernel
theorem dX3_sizeOf_5 : decode cX3_sizeOf 5 = .ok (.ifCond .ne 5, 3) := by decide +kernel
theorem dX3_sizeOf_8 : decode cX3_sizeOf 8 = .ok (.iconst 0, 1) := by decide +kernel
theorem dX3_sizeOf_9 : decode cX3_sizeOf 9 = .ok (.ireturn, 1) := by decide +kernel
theorem dX3_sizeOf_10 : decode cX3_sizeOf 10 = .ok (.iconst 0, 1) := by decide +kernel
theorem dX3_sizeOf_11 : decode cX3_sizeOf 11 = .ok (.istore_n 2, 1) := by decide +kernel
theorem dX3_sizeOf_12 : decode cX3_sizeOf 12 = .ok (.iconst 0, 1) := by decide +kernel
theorem dX3_sizeOf_13 : decode cX3_sizeOf 13 = .ok (.istore_n 3, 1) := by decide +kernel
theorem dX3_sizeOf_14 : decode cX3_sizeOf 14 = .ok (.iload_n 3, 1) := by decide +kernel
theorem dX3_sizeOf_15 : decode cX3_sizeOf 15 = .ok (.bipush 14, 2) := by decide +kernel
theorem dX3_sizeOf_17 : decode cX3_sizeOf 17 = .ok (.if_icmp .ge 22, 3) := by decide +kernel
theorem dX3_sizeOf_20 : decode cX3_sizeOf 20 = .ok (.aload_n 0, 1) := by decide +kernel
theorem dX3_sizeOf_21 : decode cX3_sizeOf 21 = .ok (.getfield 9, 3) := by decide +kernel
theorem dX3_sizeOf_24 : decode cX3_sizeOf 24 = .ok (.iload_n 3, 1) := by decide +kernel
theorem dX3_sizeOf_25 : decode cX3_sizeOf 25 = .ok (.iaload, 1) := by decide +kernel
theorem dX3_sizeOf_26 : decode cX3_sizeOf 26 = .ok (.iload_n 1, 1) := by decide +kernel
theorem dX3_sizeOf_27 : decode cX3_sizeOf 27 = .ok (.if_icmp .ne 6, 3) := by decide +kernel
theorem dX3_sizeOf_30 : decode cX3_sizeOf 30 = .ok (.iinc 2 1, 3) := by decide +kernel
theorem dX3_sizeOf_33 : decode cX3_sizeOf 33 = .ok (.iinc 3 1, 3) := by decide +kernel
theorem dX3_sizeOf_36 : decode cX3_sizeOf 36 = .ok (.goto (-22), 3) := by decide +kernel
theorem dX3_sizeOf_39 : decode cX3_sizeOf 39 = .ok (.iload_n 2, 1) := by decide +kernel
theorem dX3_sizeOf_40 : decode cX3_sizeOf 40 = .ok (.ireturn, 1) := by decide +kernel
theorem dX3_join_0 : decode cX3_join 0 = .ok (.iload_n 2, 1) := by decide +kernel
theorem dX3_join_1 : decode cX3_join 1 = .ok (.ifCond .ne 26, 3) := by decide +kernel
theorem dX3_join_4 : decode cX3_join 4 = .ok (.aload_n 0, 1) := by decide +kernel
theorem dX3_join_5 : decode cX3_join 5 = .ok (.dup, 1) := by decide +kernel
theorem dX3_join_6 : decode cX3_join 6 = .ok (.getfield 18, 3) := by decide +kernel
theorem dX3_join_9 : decode cX3_join 9 = .ok (.iconst 1, 1) := by decide +kernel
theorem dX3_join_10 : decode cX3_join 10 = .ok (.iadd, 1) := by decide +kernel
theorem dX3_join_11 : decode cX3_join 11 = .ok (.putfield 18, 3) := by decide +kernel
theorem dX3_join_14 : decode cX3_join 14 = .ok (.aload_n 0, 1) := by decide +kernel
theorem dX3_join_15 : decode cX3_join 15 = .ok (.getfield 9, 3) := by decide +kernel
theorem dX3_join_18 : decode cX3_join 18 = .ok (.iload_n 1, 1) := by decide +kernel
theorem dX3_join_19 : decode cX3_join 19 = .ok (.aload_n 0, 1) := by decide +kernel
theorem dX3_join_20 : decode cX3_join 20 = .ok (.getfield 18, 3) := by decide +kernel
theorem dX3_join_23 : decode cX3_join 23 = .ok (.iastore, 1) := by decide +kernel
theorem dX3_join_24 : decode cX3_join 24 = .ok (.goto 14, 3) := by decide +kernel
theorem dX3_join_27 : decode cX3_join 27 = .ok (.aload_n 0, 1) := by decide +kernel
theorem dX3_join_28 : decode cX3_join 28 = .ok (.getfield 9, 3) := by decide +kernel
theorem dX3_join_31 : decode cX3_join 31 = .ok (.iload_n 1, 1) := by decide +kernel
theorem dX3_join_32 : decode cX3_join 32 = .ok (.aload_n 0, 1) := by decide +kernel
theorem dX3_join_33 : decode cX3_join 33 = .ok (.iload_n 2, 1) := by decide +kernel
theorem dX3_join_34 : decode cX3_join 34 = .ok (.invokevirtual 33, 3) := by decide +kernel
theorem dX3_join_37 : decode cX3_join 37 = .ok (.iastore, 1) := by decide +kernel
theorem dX3_join_38 : decode cX3_join 38 = .ok (.aload_n 0, 1) := by decide +kernel
theorem dX3_join_39 : decode cX3_join 39 = .ok (.getfield 9, 3) := by decide +kernel
theorem dX3_join_42 : decode cX3_join 42 = .ok (.iload_n 1, 1) := by decide +kernel
theorem dX3_join_43 : decode cX3_join 43 = .ok (.iaload, 1) := by decide +kernel
theorem dX3_join_44 : decode cX3_join 44 = .ok (.ireturn, 1) := by decide +kernel
theorem dX3_leave_0 : decode cX3_leave 0 = .ok (.aload_n 0, 1) := by decide +kernel
theorem dX3_leave_1 : decode cX3_leave 1 = .ok (.getfield 9, 3) := by decide +kernel
theorem dX3_leave_4 : decode cX3_leave 4 = .ok (.iload_n 1, 1) := by decide +kernel
theorem dX3_leave_5 : decode cX3_leave 5 = .ok (.iaload, 1) := by decide +kernel
theorem dX3_leave_6 : decode cX3_leave 6 = .ok (.istore_n 2, 1) := by decide +kernel
theorem dX3_leave_7 : decode cX3_leave 7 = .ok (.aload_n 0, 1) := by decide +kernel
theorem dX3_leave_8 : decode cX3_leave 8 = .ok (.getfield 9, 3) := by decide +kernel
theorem dX3_leave_11 : decode cX3_leave 11 = .ok (.iload_n 1, 1) := by decide +kernel
theorem dX3_leave_12 : decode cX3_leave 12 = .ok (.iconst (-1), 1) := by decide +kernel
theorem dX3_leave_13 : decode cX3_leave 13 = .ok (.iastore, 1) := by decide +kernel
theorem dX3_leave_14 : decode cX3_leave 14 = .ok (.aload_n 0, 1) := by decide +kernel
theorem dX3_leave_15 : decode cX3_leave 15 = .ok (.iload_n 2, 1) := by decide +kernel
theorem dX3_leave_16 : decode cX3_leave 16 = .ok (.invokevirtual 26, 3) := by decide +kernel
theorem dX3_leave_19 : decode cX3_leave 19 = .ok (.ireturn, 1) := by decide +kernel
theorem dX3_isUsed_0 : decode cX3_isUsed 0 = .ok (.iload_n 1, 1) := by decide +kernel
theorem dX3_isUsed_1 : decode cX3_isUsed 1 = .ok (.iconst 1, 1) := by decide +kernel
theorem dX3_isUsed_2 : decode cX3_isUsed 2 = .ok (.if_icmp .lt 24, 3) := by decide +kernel
theorem dX3_isUsed_5 : decode cX3_isUsed 5 = .ok (.iload_n 1, 1) := by decide +kernel
theorem dX3_isUsed_6 : decode cX3_isUsed 6 = .ok (.aload_n 0, 1) := by decide +kernel
theorem dX3_isUsed_7 : decode cX3_isUsed 7 = .ok (.getfield 18, 3) := by decide +kernel
theorem dX3_isUsed_10 : decode cX3_isUsed 10 = .ok (.if_icmp .gt 16, 3) := by decide +kernel
theorem dX3_isUsed_13 : decode cX3_isUsed 13 = .ok (.iload_n 1, 1) := by decide +kernel
theorem dX3_isUsed_14 : decode cX3_isUsed 14 = .ok (.aload_n 0, 1) := by decide +kernel
theorem dX3_isUsed_15 : decode cX3_isUsed 15 = .ok (.getfield 15, 3) := by decide +kernel
theorem dX3_isUsed_18 : decode cX3_isUsed 18 = .ok (.arraylength, 1) := by decide +kernel
theorem dX3_isUsed_19 : decode cX3_isUsed 19 = .ok (.if_icmp .ge 7, 3) := by decide +kernel
theorem dX3_isUsed_22 : decode cX3_isUsed 22 = .ok (.iconst 1, 1) := by decide +kernel
theorem dX3_isUsed_23 : decode cX3_isUsed 23 = .ok (.goto 4, 3) := by decide +kernel
theorem dX3_isUsed_26 : decode cX3_isUsed 26 = .ok (.iconst 0, 1) := by decide +kernel
theorem dX3_isUsed_27 : decode cX3_isUsed 27 = .ok (.ireturn, 1) := by decide +kernel
theorem dX3_unite_0 : decode cX3_unite 0 = .ok (.aload_n 0, 1) := by decide +kernel
theorem dX3_unite_1 : decode cX3_unite 1 = .ok (.getfield 18, 3) := by decide +kernel
theorem dX3_unite_4 : decode cX3_unite 4 = .ok (.istore_n 2, 1) := by decide +kernel
theorem dX3_unite_5 : decode cX3_unite 5 = .ok (.iconst 0, 1) := by decide +kernel
theorem dX3_unite_6 : decode cX3_unite 6 = .ok (.istore_n 3, 1) := by decide +kernel
theorem dX3_unite_7 : decode cX3_unite 7 = .ok (.iload_n 3, 1) := by decide +kernel
theorem dX3_unite_8 : decode cX3_unite 8 = .ok (.bipush 14, 2) := by decide +kernel
theorem dX3_unite_10 : decode cX3_unite 10 = .ok (.if_icmp .ge 28, 3) := by decide +kernel
theorem dX3_unite_13 : decode cX3_unite 13 = .ok (.iload_n 1, 1) := by decide +kernel
theorem dX3_unite_14 : decode cX3_unite 14 = .ok (.iload_n 3, 1) := by decide +kernel
theorem dX3_unite_15 : decode cX3_unite 15 = .ok (.invokestatic 36, 3) := by decide +kernel
theorem dX3_unite_18 : decode cX3_unite 18 = .ok (.ifCond .eq 14, 3) := by decide +kernel
theorem dX3_unite_21 : decode cX3_unite 21 = .ok (.iload_n 2, 1) := by decide +kernel
theorem dX3_unite_22 : decode cX3_unite 22 = .ok (.aload_n 0, 1) := by decide +kernel
theorem dX3_unite_23 : decode cX3_unite 23 = .ok (.getfield 9, 3) := by decide +kernel
theorem dX3_unite_26 : decode cX3_unite 26 = .ok (.iload_n 3, 1) := by decide +kernel
theorem dX3_unite_27 : decode cX3_unite 27 = .ok (.iaload, 1) := by decide +kernel
theorem dX3_unite_28 : decode cX3_unite 28 = .ok (.invokestatic 40, 3) := by decide +kernel
theorem dX3_unite_31 : decode cX3_unite 31 = .ok (.istore_n 2, 1) := by decide +kernel
theorem dX3_unite_32 : decode cX3_unite 32 = .ok (.iinc 3 1, 3) := by decide +kernel
theorem dX3_unite_35 : decode cX3_unite 35 = .ok (.goto (-28), 3) := by decide +kernel
theorem dX3_unite_38 : decode cX3_unite 38 = .ok (.iconst 0, 1) := by decide +kernel
theorem dX3_unite_39 : decode cX3_unite 39 = .ok (.istore_n 3, 1) := by decide +kernel
theorem dX3_unite_40 : decode cX3_unite 40 = .ok (.iload_n 3, 1) := by decide +kernel
theorem dX3_unite_41 : decode cX3_unite 41 = .ok (.bipush 14, 2) := by decide +kernel
theorem dX3_unite_43 : decode cX3_unite 43 = .ok (.if_icmp .ge 38, 3) := by decide +kernel
theorem dX3_unite_46 : decode cX3_unite 46 = .ok (.iload_n 1, 1) := by decide +kernel
theorem dX3_unite_47 : decode cX3_unite 47 = .ok (.iload_n 3, 1) := by decide +kernel
theorem dX3_unite_48 : decode cX3_unite 48 = .ok (.invokestatic 36, 3) := by decide +kernel
theorem dX3_unite_51 : decode cX3_unite 51 = .ok (.ifCond .eq 24, 3) := by decide +kernel
theorem dX3_unite_54 : decode cX3_unite 54 = .ok (.aload_n 0, 1) := by decide +kernel
theorem dX3_unite_55 : decode cX3_unite 55 = .ok (.getfield 9, 3) := by decide +kernel
theorem dX3_unite_58 : decode cX3_unite 58 = .ok (.iload_n 3, 1) := by decide +kernel
theorem dX3_unite_59 : decode cX3_unite 59 = .ok (.iaload, 1) := by decide +kernel
theorem dX3_unite_60 : decode cX3_unite 60 = .ok (.iload_n 2, 1) := by decide +kernel
theorem dX3_unite_61 : decode cX3_unite 61 = .ok (.if_icmp .eq 14, 3) := by decide +kernel
theorem dX3_unite_64 : decode cX3_unite 64 = .ok (.aload_n 0, 1) := by decide +kernel
theorem dX3_unite_65 : decode cX3_unite 65 = .ok (.aload_n 0, 1) := by decide +kernel
theorem dX3_unite_66 : decode cX3_unite 66 = .ok (.getfield 9, 3) := by decide +kernel
theorem dX3_unite_69 : decode cX3_unite 69 = .ok (.iload_n 3, 1) := by decide +kernel
theorem dX3_unite_70 : decode cX3_unite 70 = .ok (.iaload, 1) := by decide +kernel
theorem dX3_unite_71 : decode cX3_unite 71 = .ok (.iload_n 2, 1) := by decide +kernel
theorem dX3_unite_72 : decode cX3_unite 72 = .ok (.invokevirtual 46, 3) := by decide +kernel
theorem dX3_unite_75 : decode cX3_unite 75 = .ok (.iinc 3 1, 3) := by decide +kernel
theorem dX3_unite_78 : decode cX3_unite 78 = .ok (.goto (-38), 3) := by decide +kernel
theorem dX3_unite_81 : decode cX3_unite 81 = .ok (.iload_n 2, 1) := by decide +kernel
theorem dX3_unite_82 : decode cX3_unite 82 = .ok (.ireturn, 1) := by decide +kernel
theorem dX3_merge_0 : decode cX3_merge 0 = .ok (.iconst 0, 1) := by decide +kernel
theorem dX3_merge_1 : decode cX3_merge 1 = .ok (.istore_n 3, 1) := by decide +kernel
theorem dX3_merge_2 : decode cX3_merge 2 = .ok (.iload_n 3, 1) := by decide +kernel
theorem dX3_merge_3 : decode cX3_merge 3 = .ok (.bipush 14, 2) := by decide +kernel
theorem dX3_merge_5 : decode cX3_merge 5 = .ok (.if_icmp .ge 26, 3) := by decide +kernel
theorem dX3_merge_8 : decode cX3_merge 8 = .ok (.aload_n 0, 1) := by decide +kernel
theorem dX3_merge_9 : decode cX3_merge 9 = .ok (.getfield 9, 3) := by decide +kernel
theorem dX3_merge_12 : decode cX3_merge 12 = .ok (.iload_n 3, 1) := by decide +kernel
theorem dX3_merge_13 : decode cX3_merge 13 = .ok (.iaload, 1) := by decide +kernel
theorem dX3_merge_14 : decode cX3_merge 14 = .ok (.iload_n 1, 1) := by decide +kernel
theorem dX3_merge_15 : decode cX3_merge 15 = .ok (.if_icmp .ne 10, 3) := by decide +kernel
theorem dX3_merge_18 : decode cX3_merge 18 = .ok (.aload_n 0, 1) := by decide +kernel
theorem dX3_merge_19 : decode cX3_merge 19 = .ok (.getfield 9, 3) := by decide +kernel
theorem dX3_merge_22 : decode cX3_merge 22 = .ok (.iload_n 3, 1) := by decide +kernel
theorem dX3_merge_23 : decode cX3_merge 23 = .ok (.iload_n 2, 1) := by decide +kernel
theorem dX3_merge_24 : decode cX3_merge 24 = .ok (.iastore, 1) := by decide +kernel
theorem dX3_merge_25 : decode cX3_merge 25 = .ok (.iinc 3 1, 3) := by decide +kernel
theorem dX3_merge_28 : decode cX3_merge 28 = .ok (.goto (-26), 3) := by decide +kernel
theorem dX3_merge_31 : decode cX3_merge 31 = .ok (.aload_n 0, 1) := by decide +kernel
theorem dX3_merge_32 : decode cX3_merge 32 = .ok (.iload_n 1, 1) := by decide +kernel
theorem dX3_merge_33 : decode cX3_merge 33 = .ok (.invokevirtual 22, 3) := by decide +kernel
theorem dX3_merge_36 : decode cX3_merge 36 = .ok (.ifCond .eq 10, 3) := by decide +kernel
theorem dX3_merge_39 : decode cX3_merge 39 = .ok (.aload_n 0, 1) := by decide +kernel
theorem dX3_merge_40 : decode cX3_merge 40 = .ok (.getfield 15, 3) := by decide +kernel
theorem dX3_merge_43 : decode cX3_merge 43 = .ok (.iload_n 1, 1) := by decide +kernel
theorem dX3_merge_44 : decode cX3_merge 44 = .ok (.iload_n 2, 1) := by decide +kernel
theorem dX3_merge_45 : decode cX3_merge 45 = .ok (.iastore, 1) := by decide +kernel
theorem dX3_merge_46 : decode cX3_merge 46 = .ok (.return_, 1) := by decide +kernel
theorem dX4_init_0 : decode cX4_init 0 = .ok (.aload_n 0, 1) := by decide +kernel
theorem dX4_init_1 : decode cX4_init 1 = .ok (.invokespecial 1, 3) := by decide +kernel
theorem dX4_init_4 : decode cX4_init 4 = .ok (.aload_n 0, 1) := by decide +kernel
theorem dX4_init_5 : decode cX4_init 5 = .ok (.new 7, 3) := by decide +kernel
theorem dX4_init_8 : decode cX4_init 8 = .ok (.dup, 1) := by decide +kernel
theorem dX4_init_9 : decode cX4_init 9 = .ok (.invokespecial 9, 3) := by decide +kernel
theorem dX4_init_12 : decode cX4_init 12 = .ok (.putfield 10, 3) := by decide +kernel
theorem dX4_init_15 : decode cX4_init 15 = .ok (.aload_n 0, 1) := by decide +kernel
theorem dX4_init_16 : decode cX4_init 16 = .ok (.new 16, 3) := by decide +kernel
theorem dX4_init_19 : decode cX4_init 19 = .ok (.dup, 1) := by decide +kernel
theorem dX4_init_20 : decode cX4_init 20 = .ok (.invokespecial 18, 3) := by decide +kernel
theorem dX4_init_23 : decode cX4_init 23 = .ok (.putfield 19, 3) := by decide +kernel
theorem dX4_init_26 : decode cX4_init 26 = .ok (.aload_n 0, 1) := by decide +kernel
theorem dX4_init_27 : decode cX4_init 27 = .ok (.new 23, 3) := by decide +kernel
theorem dX4_init_30 : decode cX4_init 30 = .ok (.dup, 1) := by decide +kernel
theorem dX4_init_31 : decode cX4_init 31 = .ok (.invokespecial 25, 3) := by decide +kernel
theorem dX4_init_34 : decode cX4_init 34 = .ok (.putfield 26, 3) := by decide +kernel
theorem dX4_init_37 : decode cX4_init 37 = .ok (.aload_n 0, 1) := by decide +kernel
theorem dX4_init_38 : decode cX4_init 38 = .ok (.iconst 0, 1) := by decide +kernel
theorem dX4_init_39 : decode cX4_init 39 = .ok (.putfield 30, 3) := by decide +kernel
theorem dX4_init_42 : decode cX4_init 42 = .ok (.aload_n 0, 1) := by decide +kernel
theorem dX4_init_43 : decode cX4_init 43 = .ok (.iconst 0, 1) := by decide +kernel
theorem dX4_init_44 : decode cX4_init 44 = .ok (.putfield 34, 3) := by decide +kernel
theorem dX4_init_47 : decode cX4_init 47 = .ok (.return_, 1) := by decide +kernel
theorem dX4_need_0 : decode cX4_need 0 = .ok (.iload_n 1, 1) := by decide +kernel
theorem dX4_need_1 : decode cX4_need 1 = .ok (.invokestatic 37, 3) := by decide +kernel
theorem dX4_need_4 : decode cX4_need 4 = .ok (.iload_n 2, 1) := by decide +kernel
theorem dX4_need_5 : decode cX4_need 5 = .ok (.invokestatic 37, 3) := by decide +kernel
theorem dX4_need_8 : decode cX4_need 8 = .ok (.iload_n 1, 1) := by decide +kernel
theorem dX4_need_9 : decode cX4_need 9 = .ok (.iload_n 2, 1) := by decide +kernel
theorem dX4_need_10 : decode cX4_need 10 = .ok (.if_icmp .eq 18, 3) := by decide +kernel
theorem dX4_need_13 : decode cX4_need 13 = .ok (.aload_n 0, 1) := by decide +kernel
theorem dX4_need_14 : decode cX4_need 14 = .ok (.getfield 10, 3) := by decide +kernel
theorem dX4_need_17 : decode cX4_need 17 = .ok (.iload_n 2, 1) := by decide +kernel
theorem dX4_need_18 : decode cX4_need 18 = .ok (.invokevirtual 41, 3) := by decide +kernel
theorem dX4_need_21 : decode cX4_need 21 = .ok (.iload_n 1, 1) := by decide +kernel
theorem dX4_need_22 : decode cX4_need 22 = .ok (.invokestatic 45, 3) := by decide +kernel
theorem dX4_need_25 : decode cX4_need 25 = .ok (.ifCond .eq 13, 3) := by decide +kernel
theorem dX4_need_28 : decode cX4_need 28 = .ok (.new 49, 3) := by decide +kernel
theorem dX4_need_31 : decode cX4_need 31 = .ok (.dup, 1) := by decide +kernel
theorem dX4_need_32 : decode cX4_need 32 = .ok (.ldc 51, 2) := by decide +kernel
theorem dX4_need_34 : decode cX4_need 34 = .ok (.invokespecial 53, 3) := by decide +kernel
theorem dX4_need_37 : decode cX4_need 37 = .ok (.athrow, 1) := by decide +kernel
theorem dX4_need_38 : decode cX4_need 38 = .ok (.aload_n 0, 1) := by decide +kernel
theorem dX4_need_39 : decode cX4_need 39 = .ok (.getfield 10, 3) := by decide +kernel
theorem dX4_need_42 : decode cX4_need 42 = .ok (.iload_n 1, 1) := by decide +kernel
theorem dX4_need_43 : decode cX4_need 43 = .ok (.iload_n 2, 1) := by decide +kernel
theorem dX4_need_44 : decode cX4_need 44 = .ok (.invokevirtual 56, 3) := by decide +kernel
theorem dX4_need_47 : decode cX4_need 47 = .ok (.ireturn, 1) := by decide +kernel
theorem dX4_release_0 : decode cX4_release 0 = .ok (.iload_n 1, 1) := by decide +kernel
theorem dX4_release_1 : decode cX4_release 1 = .ok (.invokestatic 37, 3) := by decide +kernel
theorem dX4_release_4 : decode cX4_release 4 = .ok (.iload_n 2, 1) := by decide +kernel
theorem dX4_release_5 : decode cX4_release 5 = .ok (.invokestatic 37, 3) := by decide +kernel
theorem dX4_release_8 : decode cX4_release 8 = .ok (.aload_n 0, 1) := by decide +kernel
theorem dX4_release_9 : decode cX4_release 9 = .ok (.getfield 10, 3) := by decide +kernel
theorem dX4_release_12 : decode cX4_release 12 = .ok (.iload_n 1, 1) := by decide +kernel
theorem dX4_release_13 : decode cX4_release 13 = .ok (.iload_n 2, 1) := by decide +kernel
theorem dX4_release_14 : decode cX4_release 14 = .ok (.invokevirtual 59, 3) := by decide +kernel
theorem dX4_release_17 : decode cX4_release 17 = .ok (.ireturn, 1) := by decide +kernel
theorem dX4_needs_0 : decode cX4_needs 0 = .ok (.iload_n 1, 1) := by decide +kernel
theorem dX4_needs_1 : decode cX4_needs 1 = .ok (.invokestatic 37, 3) := by decide +kernel
theorem dX4_needs_4 : decode cX4_needs 4 = .ok (.iload_n 2, 1) := by decide +kernel
theorem dX4_needs_5 : decode cX4_needs 5 = .ok (.invokestatic 37, 3) := by decide +kernel
theorem dX4_needs_8 : decode cX4_needs 8 = .ok (.aload_n 0, 1) := by decide +kernel
theorem dX4_needs_9 : decode cX4_needs 9 = .ok (.getfield 10, 3) := by decide +kernel
theorem dX4_needs_12 : decode cX4_needs 12 = .ok (.iload_n 1, 1) := by decide +kernel
theorem dX4_needs_13 : decode cX4_needs 13 = .ok (.invokevirtual 62, 3) := by decide +kernel
theorem dX4_needs_16 : decode cX4_needs 16 = .ok (.iload_n 2, 1) := by decide +kernel
theorem dX4_needs_17 : decode cX4_needs 17 = .ok (.invokestatic 45, 3) := by decide +kernel
theorem dX4_needs_20 : decode cX4_needs 20 = .ok (.ireturn, 1) := by decide +kernel
theorem dX4_dependsOn_0 : decode cX4_dependsOn 0 = .ok (.iload_n 1, 1) := by decide +kernel
theorem dX4_dependsOn_1 : decode cX4_dependsOn 1 = .ok (.invokestatic 37, 3) := by decide +kernel
theorem dX4_dependsOn_4 : decode cX4_dependsOn 4 = .ok (.iload_n 2, 1) := by decide +kernel
theorem dX4_dependsOn_5 : decode cX4_dependsOn 5 = .ok (.invokestatic 37, 3) := by decide +kernel
theorem dX4_dependsOn_8 : decode cX4_dependsOn 8 = .ok (.aload_n 0, 1) := by decide +kernel
theorem dX4_dependsOn_9 : decode cX4_dependsOn 9 = .ok (.getfield 10, 3) := by decide +kernel
theorem dX4_dependsOn_12 : decode cX4_dependsOn 12 = .ok (.iload_n 1, 1) := by decide +kernel
theorem dX4_dependsOn_13 : decode cX4_dependsOn 13 = .ok (.invokevirtual 41, 3) := by decide +kernel
theorem dX4_dependsOn_16 : decode cX4_dependsOn 16 = .ok (.iload_n 2, 1) := by decide +kernel
theorem dX4_dependsOn_17 : decode cX4_dependsOn 17 = .ok (.invokestatic 45, 3) := by decide +kernel
theorem dX4_dependsOn_20 : decode cX4_dependsOn 20 = .ok (.ireturn, 1) := by decide +kernel
theorem dX4_height_0 : decode cX4_height 0 = .ok (.iload_n 1, 1) := by decide +kernel
theorem dX4_height_1 : decode cX4_height 1 = .ok (.invokestatic 37, 3) := by decide +kernel
theorem dX4_height_4 : decode cX4_height 4 = .ok (.aload_n 0, 1) := by decide +kernel
theorem dX4_height_5 : decode cX4_height 5 = .ok (.getfield 10, 3) := by decide +kernel
theorem dX4_height_8 : decode cX4_height 8 = .ok (.iload_n 1, 1) := by decide +kernel
theorem dX4_height_9 : decode cX4_height 9 = .ok (.invokevirtual 65, 3) := by decide +kernel
theorem dX4_height_12 : decode cX4_height 12 = .ok (.ireturn, 1) := by decide +kernel
theorem dX4_tick_0 : decode cX4_tick 0 = .ok (.iload_n 1, 1) := by decide +kernel
theorem dX4_tick_1 : decode cX4_tick 1 = .ok (.bipush 100, 2) := by decide +kernel
theorem dX4_tick_3 : decode cX4_tick 3 = .ok (.invokestatic 68, 3) := by decide +kernel
theorem dX4_tick_6 : decode cX4_tick 6 = .ok (.aload_n 0, 1) := by decide +kernel
theorem dX4_tick_7 : decode cX4_tick 7 = .ok (.dup, 1) := by decide +kernel
theorem dX4_tick_8 : decode cX4_tick 8 = .ok (.getfield 34, 3) := by decide +kernel
theorem dX4_tick_11 : decode cX4_tick 11 = .ok (.iload_n 1, 1) := by decide +kernel
theorem dX4_tick_12 : decode cX4_tick 12 = .ok (.iadd, 1) := by decide +kernel
theorem dX4_tick_13 : decode cX4_tick 13 = .ok (.putfield 34, 3) := by decide +kernel
theorem dX4_tick_16 : decode cX4_tick 16 = .ok (.aload_n 0, 1) := by decide +kernel
theorem dX4_tick_17 : decode cX4_tick 17 = .ok (.getfield 34, 3) := by decide +kernel
theorem dX4_tick_20 : decode cX4_tick 20 = .ok (.ireturn, 1) := by decide +kernel
theorem dX4_now_0 : decode cX4_now 0 = .ok (.aload_n 0, 1) := by decide +kernel
theorem dX4_now_1 : decode cX4_now 1 = .ok (.getfield 34, 3) := by decide +kernel
theorem dX4_now_4 : decode cX4_now 4 = .ok (.ireturn, 1) := by decide +kernel
theorem dX4_raise_0 : decode cX4_raise 0 = .ok (.iload_n 1, 1) := by decide +kernel
theorem dX4_raise_1 : decode cX4_raise 1 = .ok (.invokestatic 37, 3) := by decide +kernel
theorem dX4_raise_4 : decode cX4_raise 4 = .ok (.aload_n 0, 1) := by decide +kernel
theorem dX4_raise_5 : decode cX4_raise 5 = .ok (.aload_n 0, 1) := by decide +kernel
theorem dX4_raise_6 : decode cX4_raise 6 = .ok (.getfield 30, 3) := by decide +kernel
theorem dX4_raise_9 : decode cX4_raise 9 = .ok (.iload_n 1, 1) := by decide +kernel
theorem dX4_raise_10 : decode cX4_raise 10 = .ok (.invokestatic 45, 3) := by decide +kernel
theorem dX4_raise_13 : decode cX4_raise 13 = .ok (.ifCond .ne 7, 3) := by decide +kernel
theorem dX4_raise_16 : decode cX4_raise 16 = .ok (.iconst 1, 1) := by decide +kernel
theorem dX4_raise_17 : decode cX4_raise 17 = .ok (.goto 4, 3) := by decide +kernel
theorem dX4_raise_20 : decode cX4_raise 20 = .ok (.iconst 0, 1) := by decide +kernel
theorem dX4_raise_21 : decode cX4_raise 21 = .ok (.invokevirtual 72, 3) := by decide +kernel
theorem dX4_raise_24 : decode cX4_raise 24 = .ok (.aload_n 0, 1) := by decide +kernel
theorem dX4_raise_25 : decode cX4_raise 25 = .ok (.getfield 19, 3) := by decide +kernel
theorem dX4_raise_28 : decode cX4_raise 28 = .ok (.iload_n 1, 1) := by decide +kernel
theorem dX4_raise_29 : decode cX4_raise 29 = .ok (.aload_n 0, 1) := by decide +kernel
theorem dX4_raise_30 : decode cX4_raise 30 = .ok (.getfield 34, 3) := by decide +kernel
theorem dX4_raise_33 : decode cX4_raise 33 = .ok (.invokevirtual 76, 3) := by decide +kernel
theorem dX4_raise_36 : decode cX4_raise 36 = .ok (.aload_n 0, 1) := by decide +kernel
theorem dX4_raise_37 : decode cX4_raise 37 = .ok (.getfield 10, 3) := by decide +kernel
theorem dX4_raise_40 : decode cX4_raise 40 = .ok (.iload_n 1, 1) := by decide +kernel
theorem dX4_raise_41 : decode cX4_raise 41 = .ok (.invokevirtual 41, 3) := by decide +kernel
theorem dX4_raise_44 : decode cX4_raise 44 = .ok (.aload_n 0, 1) := by decide +kernel
theorem dX4_raise_45 : decode cX4_raise 45 = .ok (.getfield 10, 3) := by decide +kernel
theorem dX4_raise_48 : decode cX4_raise 48 = .ok (.iload_n 1, 1) := by decide +kernel
theorem dX4_raise_49 : decode cX4_raise 49 = .ok (.invokevirtual 79, 3) := by decide +kernel
theorem dX4_raise_52 : decode cX4_raise 52 = .ok (.ior, 1) := by decide +kernel
theorem dX4_raise_53 : decode cX4_raise 53 = .ok (.aload_n 0, 1) := by decide +kernel
theorem dX4_raise_54 : decode cX4_raise 54 = .ok (.getfield 30, 3) := by decide +kernel
theorem dX4_raise_57 : decode cX4_raise 57 = .ok (.iand, 1) := by decide +kernel
theorem dX4_raise_58 : decode cX4_raise 58 = .ok (.istore_n 2, 1) := by decide +kernel
theorem dX4_raise_59 : decode cX4_raise 59 = .ok (.aload_n 0, 1) := by decide +kernel
theorem dX4_raise_60 : decode cX4_raise 60 = .ok (.dup, 1) := by decide +kernel
theorem dX4_raise_61 : decode cX4_raise 61 = .ok (.getfield 30, 3) := by decide +kernel
theorem dX4_raise_64 : decode cX4_raise 64 = .ok (.iload_n 1, 1) := by decide +kernel
theorem dX4_raise_65 : decode cX4_raise 65 = .ok (.invokestatic 82, 3) := by decide +kernel
theorem dX4_raise_68 : decode cX4_raise 68 = .ok (.ior, 1) := by decide +kernel
theorem dX4_raise_69 : decode cX4_raise 69 = .ok (.putfield 30, 3) := by decide +kernel
theorem dX4_raise_72 : decode cX4_raise 72 = .ok (.aload_n 0, 1) := by decide +kernel
theorem dX4_raise_73 : decode cX4_raise 73 = .ok (.getfield 26, 3) := by decide +kernel
theorem dX4_raise_76 : decode cX4_raise 76 = .ok (.iload_n 1, 1) := by decide +kernel
theorem dX4_raise_77 : decode cX4_raise 77 = .ok (.iload_n 2, 1) := by decide +kernel
theorem dX4_raise_78 : decode cX4_raise 78 = .ok (.invokevirtual 85, 3) := by decide +kernel
theorem dX4_raise_81 : decode cX4_raise 81 = .ok (.ireturn, 1) := by decide +kernel
theorem dX4_clear_0 : decode cX4_clear 0 = .ok (.iload_n 1, 1) := by decide +kernel
theorem dX4_clear_1 : decode cX4_clear 1 = .ok (.invokestatic 37, 3) := by decide +kernel
theorem dX4_clear_4 : decode cX4_clear 4 = .ok (.aload_n 0, 1) := by decide +kernel
theorem dX4_clear_5 : decode cX4_clear 5 = .ok (.aload_n 0, 1) := by decide +kernel
theorem dX4_clear_6 : decode cX4_clear 6 = .ok (.getfield 30, 3) := by decide +kernel
theorem dX4_clear_9 : decode cX4_clear 9 = .ok (.iload_n 1, 1) := by decide +kernel
theorem dX4_clear_10 : decode cX4_clear 10 = .ok (.invokestatic 45, 3) := by decide +kernel
theorem dX4_clear_13 : decode cX4_clear 13 = .ok (.invokevirtual 72, 3) := by decide +kernel
theorem dX4_clear_16 : decode cX4_clear 16 = .ok (.aload_n 0, 1) := by decide +kernel
theorem dX4_clear_17 : decode cX4_clear 17 = .ok (.getfield 19, 3) := by decide +kernel
theorem dX4_clear_20 : decode cX4_clear 20 = .ok (.iload_n 1, 1) := by decide +kernel
theorem dX4_clear_21 : decode cX4_clear 21 = .ok (.aload_n 0, 1) := by decide +kernel
theorem dX4_clear_22 : decode cX4_clear 22 = .ok (.getfield 34, 3) := by decide +kernel
theorem dX4_clear_25 : decode cX4_clear 25 = .ok (.invokevirtual 89, 3) := by decide +kernel
theorem dX4_clear_28 : decode cX4_clear 28 = .ok (.aload_n 0, 1) := by decide +kernel
theorem dX4_clear_29 : decode cX4_clear 29 = .ok (.dup, 1) := by decide +kernel
theorem dX4_clear_30 : decode cX4_clear 30 = .ok (.getfield 30, 3) := by decide +kernel
theorem dX4_clear_33 : decode cX4_clear 33 = .ok (.iload_n 1, 1) := by decide +kernel
theorem dX4_clear_34 : decode cX4_clear 34 = .ok (.invokestatic 82, 3) := by decide +kernel
theorem dX4_clear_37 : decode cX4_clear 37 = .ok (.iconst (-1), 1) := by decide +kernel
theorem dX4_clear_38 : decode cX4_clear 38 = .ok (.ixor, 1) := by decide +kernel
theorem dX4_clear_39 : decode cX4_clear 39 = .ok (.iand, 1) := by decide +kernel
theorem dX4_clear_40 : decode cX4_clear 40 = .ok (.putfield 30, 3) := by decide +kernel
theorem dX4_clear_43 : decode cX4_clear 43 = .ok (.aload_n 0, 1) := by decide +kernel
theorem dX4_clear_44 : decode cX4_clear 44 = .ok (.getfield 26, 3) := by decide +kernel
theorem dX4_clear_47 : decode cX4_clear 47 = .ok (.iload_n 1, 1) := by decide +kernel
theorem dX4_clear_48 : decode cX4_clear 48 = .ok (.invokevirtual 92, 3) := by decide +kernel
theorem dX4_clear_51 : decode cX4_clear 51 = .ok (.ireturn, 1) := by decide +kernel
theorem dX4_events_0 : decode cX4_events 0 = .ok (.aload_n 0, 1) := by decide +kernel
theorem dX4_events_1 : decode cX4_events 1 = .ok (.getfield 19, 3) := by decide +kernel
theorem dX4_events_4 : decode cX4_events 4 = .ok (.invokevirtual 103, 3) := by decide +kernel
theorem dX4_events_7 : decode cX4_events 7 = .ok (.ireturn, 1) := by decide +kernel
theorem dX4_ticketOf_0 : decode cX4_ticketOf 0 = .ok (.iload_n 1, 1) := by decide +kernel
theorem dX4_ticketOf_1 : decode cX4_ticketOf 1 = .ok (.invokestatic 37, 3) := by decide +kernel
theorem dX4_ticketOf_4 : decode cX4_ticketOf 4 = .ok (.aload_n 0, 1) := by decide +kernel
theorem dX4_ticketOf_5 : decode cX4_ticketOf 5 = .ok (.getfield 26, 3) := by decide +kernel
theorem dX4_ticketOf_8 : decode cX4_ticketOf 8 = .ok (.iload_n 1, 1) := by decide +kernel
theorem dX4_ticketOf_9 : decode cX4_ticketOf 9 = .ok (.invokevirtual 125, 3) := by decide +kernel
theorem dX4_ticketOf_12 : decode cX4_ticketOf 12 = .ok (.ireturn, 1) := by decide +kernel
theorem dX4_isPlausible_0 : decode cX4_isPlausible 0 = .ok (.iload_n 1, 1) := by decide +kernel
theorem dX4_isPlausible_1 : decode cX4_isPlausible 1 = .ok (.invokestatic 37, 3) := by decide +kernel
theorem dX4_isPlausible_4 : decode cX4_isPlausible 4 = .ok (.aload_n 0, 1) := by decide +kernel
theorem dX4_isPlausible_5 : decode cX4_isPlausible 5 = .ok (.invokevirtual 137, 3) := by decide +kernel
theorem dX4_isPlausible_8 : decode cX4_isPlausible 8 = .ok (.invokevirtual 141, 3) := by decide +kernel
theorem dX4_isPlausible_11 : decode cX4_isPlausible 11 = .ok (.iload_n 1, 1) := by decide +kernel
theorem dX4_isPlausible_12 : decode cX4_isPlausible 12 = .ok (.invokestatic 45, 3) := by decide +kernel
theorem dX4_isPlausible_15 : decode cX4_isPlausible 15 = .ok (.ireturn, 1) := by decide +kernel
theorem dX4_causes_0 : decode cX4_causes 0 = .ok (.aload_n 0, 1) := by decide +kernel
theorem dX4_causes_1 : decode cX4_causes 1 = .ok (.invokevirtual 137, 3) := by decide +kernel
theorem dX4_causes_4 : decode cX4_causes 4 = .ok (.invokevirtual 146, 3) := by decide +kernel
theorem dX4_causes_7 : decode cX4_causes 7 = .ok (.invokestatic 149, 3) := by decide +kernel
theorem dX4_causes_10 : decode cX4_causes 10 = .ok (.ireturn, 1) := by decide +kernel
theorem dX4_cause_0 : decode cX4_cause 0 = .ok (.aload_n 0, 1) := by decide +kernel
theorem dX4_cause_1 : decode cX4_cause 1 = .ok (.invokevirtual 137, 3) := by decide +kernel
theorem dX4_cause_4 : decode cX4_cause 4 = .ok (.invokevirtual 146, 3) := by decide +kernel
theorem dX4_cause_7 : decode cX4_cause 7 = .ok (.iload_n 1, 1) := by decide +kernel
theorem dX4_cause_8 : decode cX4_cause 8 = .ok (.invokestatic 154, 3) := by decide +kernel
theorem dX4_cause_11 : decode cX4_cause 11 = .ok (.ireturn, 1) := by decide +kernel
theorem dX4_causeByTrying_0 : decode cX4_causeByTrying 0 = .ok (.aload_n 0, 1) := by decide +kernel
theorem dX4_causeByTrying_1 : decode cX4_causeByTrying 1 = .ok (.invokevirtual 137, 3) := by decide +kernel
theorem dX4_causeByTrying_4 : decode cX4_causeByTrying 4 = .ok (.invokevirtual 157, 3) := by decide +kernel
theorem dX4_causeByTrying_7 : decode cX4_causeByTrying 7 = .ok (.iload_n 1, 1) := by decide +kernel
theorem dX4_causeByTrying_8 : decode cX4_causeByTrying 8 = .ok (.invokestatic 154, 3) := by decide +kernel
theorem dX4_causeByTrying_11 : decode cX4_causeByTrying 11 = .ok (.ireturn, 1) := by decide +kernel
theorem dX4_greedyCauses_0 : decode cX4_greedyCauses 0 = .ok (.aload_n 0, 1) := by decide +kernel
theorem dX4_greedyCauses_1 : decode cX4_greedyCauses 1 = .ok (.invokevirtual 137, 3) := by decide +kernel
theorem dX4_greedyCauses_4 : decode cX4_greedyCauses 4 = .ok (.invokevirtual 160, 3) := by decide +kernel
theorem dX4_greedyCauses_7 : decode cX4_greedyCauses 7 = .ok (.ireturn, 1) := by decide +kernel
theorem dX4_greedyCause_0 : decode cX4_greedyCause 0 = .ok (.aload_n 0, 1) := by decide +kernel
theorem dX4_greedyCause_1 : decode cX4_greedyCause 1 = .ok (.invokevirtual 137, 3) := by decide +kernel
theorem dX4_greedyCause_4 : decode cX4_greedyCause 4 = .ok (.iload_n 1, 1) := by decide +kernel
theorem dX4_greedyCause_5 : decode cX4_greedyCause 5 = .ok (.invokevirtual 163, 3) := by decide +kernel
theorem dX4_greedyCause_8 : decode cX4_greedyCause 8 = .ok (.istore_n 2, 1) := by decide +kernel
theorem dX4_greedyCause_9 : decode cX4_greedyCause 9 = .ok (.iload_n 2, 1) := by decide +kernel
theorem dX4_greedyCause_10 : decode cX4_greedyCause 10 = .ok (.iconst (-1), 1) := by decide +kernel
theorem dX4_greedyCause_11 : decode cX4_greedyCause 11 = .ok (.if_icmp .ne 13, 3) := by decide +kernel
theorem dX4_greedyCause_14 : decode cX4_greedyCause 14 = .ok (.new 166, 3) := by decide +kernel
theorem dX4_greedyCause_17 : decode cX4_greedyCause 17 = .ok (.dup, 1) := by decide +kernel
theorem dX4_greedyCause_18 : decode cX4_greedyCause 18 = .ok (.ldc 168, 2) := by decide +kernel
theorem dX4_greedyCause_20 : decode cX4_greedyCause 20 = .ok (.invokespecial 170, 3) := by decide +kernel
theorem dX4_greedyCause_23 : decode cX4_greedyCause 23 = .ok (.athrow, 1) := by decide +kernel
theorem dX4_greedyCause_24 : decode cX4_greedyCause 24 = .ok (.iload_n 2, 1) := by decide +kernel
theorem dX4_greedyCause_25 : decode cX4_greedyCause 25 = .ok (.ireturn, 1) := by decide +kernel
theorem dX4_causeOf_0 : decode cX4_causeOf 0 = .ok (.iload_n 1, 1) := by decide +kernel
theorem dX4_causeOf_1 : decode cX4_causeOf 1 = .ok (.invokestatic 37, 3) := by decide +kernel
theorem dX4_causeOf_4 : decode cX4_causeOf 4 = .ok (.aload_n 0, 1) := by decide +kernel
theorem dX4_causeOf_5 : decode cX4_causeOf 5 = .ok (.getfield 30, 3) := by decide +kernel
theorem dX4_causeOf_8 : decode cX4_causeOf 8 = .ok (.iload_n 1, 1) := by decide +kernel
theorem dX4_causeOf_9 : decode cX4_causeOf 9 = .ok (.invokestatic 45, 3) := by decide +kernel
theorem dX4_causeOf_12 : decode cX4_causeOf 12 = .ok (.ifCond .ne 5, 3) := by decide +kernel
theorem dX4_causeOf_15 : decode cX4_causeOf 15 = .ok (.iconst (-1), 1) := by decide +kernel
theorem dX4_causeOf_16 : decode cX4_causeOf 16 = .ok (.ireturn, 1) := by decide +kernel
theorem dX4_causeOf_17 : decode cX4_causeOf 17 = .ok (.aload_n 0, 1) := by decide +kernel
theorem dX4_causeOf_18 : decode cX4_causeOf 18 = .ok (.invokevirtual 137, 3) := by decide +kernel
theorem dX4_causeOf_21 : decode cX4_causeOf 21 = .ok (.invokevirtual 146, 3) := by decide +kernel
theorem dX4_causeOf_24 : decode cX4_causeOf 24 = .ok (.aload_n 0, 1) := by decide +kernel
theorem dX4_causeOf_25 : decode cX4_causeOf 25 = .ok (.getfield 10, 3) := by decide +kernel
theorem dX4_causeOf_28 : decode cX4_causeOf 28 = .ok (.iload_n 1, 1) := by decide +kernel
theorem dX4_causeOf_29 : decode cX4_causeOf 29 = .ok (.invokevirtual 171, 3) := by decide +kernel
theorem dX4_causeOf_32 : decode cX4_causeOf 32 = .ok (.iand, 1) := by decide +kernel
theorem dX4_causeOf_33 : decode cX4_causeOf 33 = .ok (.iconst 0, 1) := by decide +kernel
theorem dX4_causeOf_34 : decode cX4_causeOf 34 = .ok (.invokestatic 174, 3) := by decide +kernel
theorem dX4_causeOf_37 : decode cX4_causeOf 37 = .ok (.ireturn, 1) := by decide +kernel
theorem dX4_diagnoser_0 : decode cX4_diagnoser 0 = .ok (.new 142, 3) := by decide +kernel
theorem dX4_diagnoser_3 : decode cX4_diagnoser 3 = .ok (.dup, 1) := by decide +kernel
theorem dX4_diagnoser_4 : decode cX4_diagnoser 4 = .ok (.aload_n 0, 1) := by decide +kernel
theorem dX4_diagnoser_5 : decode cX4_diagnoser 5 = .ok (.getfield 10, 3) := by decide +kernel
theorem dX4_diagnoser_8 : decode cX4_diagnoser 8 = .ok (.aload_n 0, 1) := by decide +kernel
theorem dX4_diagnoser_9 : decode cX4_diagnoser 9 = .ok (.getfield 30, 3) := by decide +kernel
theorem dX4_diagnoser_12 : decode cX4_diagnoser 12 = .ok (.invokespecial 177, 3) := by decide +kernel
theorem dX4_diagnoser_15 : decode cX4_diagnoser 15 = .ok (.areturn, 1) := by decide +kernel
theorem dX4_checkNode_0 : decode cX4_checkNode 0 = .ok (.iload_n 0, 1) := by decide +kernel
theorem dX4_checkNode_1 : decode cX4_checkNode 1 = .ok (.ifCond .lt 9, 3) := by decide +kernel
theorem dX4_checkNode_4 : decode cX4_checkNode 4 = .ok (.iload_n 0, 1) := by decide +kernel
theorem dX4_checkNode_5 : decode cX4_checkNode 5 = .ok (.bipush 14, 2) := by decide +kernel
theorem dX4_checkNode_7 : decode cX4_checkNode 7 = .ok (.if_icmp .lt 13, 3) := by decide +kernel
theorem dX4_checkNode_10 : decode cX4_checkNode 10 = .ok (.new 166, 3) := by decide +kernel
theorem dX4_checkNode_13 : decode cX4_checkNode 13 = .ok (.dup, 1) := by decide +kernel
theorem dX4_checkNode_14 : decode cX4_checkNode 14 = .ok (.ldc 180, 2) := by decide +kernel
theorem dX4_checkNode_16 : decode cX4_checkNode 16 = .ok (.invokespecial 170, 3) := by decide +kernel
theorem dX4_checkNode_19 : decode cX4_checkNode 19 = .ok (.athrow, 1) := by decide +kernel
theorem dX4_checkNode_20 : decode cX4_checkNode 20 = .ok (.return_, 1) := by decide +kernel
theorem dX4_checkTicks_0 : decode cX4_checkTicks 0 = .ok (.iload_n 0, 1) := by decide +kernel
theorem dX4_checkTicks_1 : decode cX4_checkTicks 1 = .ok (.iconst 1, 1) := by decide +kernel
theorem dX4_checkTicks_2 : decode cX4_checkTicks 2 = .ok (.if_icmp .lt 8, 3) := by decide +kernel
theorem dX4_checkTicks_5 : decode cX4_checkTicks 5 = .ok (.iload_n 0, 1) := by decide +kernel
theorem dX4_checkTicks_6 : decode cX4_checkTicks 6 = .ok (.iload_n 1, 1) := by decide +kernel
theorem dX4_checkTicks_7 : decode cX4_checkTicks 7 = .ok (.if_icmp .le 13, 3) := by decide +kernel
theorem dX4_checkTicks_10 : decode cX4_checkTicks 10 = .ok (.new 49, 3) := by decide +kernel
end
section
theorem dX4_checkTicks_13 : decode cX4_checkTicks 13 = .ok (.dup, 1) := by decide +kernel
theorem dX4_checkTicks_14 : decode cX4_checkTicks 14 = .ok (.ldc 182, 2) := by decide +kernel
theorem dX4_checkTicks_16 : decode cX4_checkTicks 16 = .ok (.invokespecial 53, 3) := by decide +kernel
theorem dX4_checkTicks_19 : decode cX4_checkTicks 19 = .ok (.athrow, 1) := by decide +kernel
theorem dX4_checkTicks_20 : decode cX4_checkTicks 20 = .ok (.return_, 1) := by decide +kernel
theorem dX4_checkChange_0 : decode cX4_checkChange 0 = .ok (.iload_n 1, 1) := by decide +kernel
theorem dX4_checkChange_1 : decode cX4_checkChange 1 = .ok (.ifCond .eq 13, 3) := by decide +kernel
theorem dX4_checkChange_4 : decode cX4_checkChange 4 = .ok (.aload_n 0, 1) := by decide +kernel
theorem dX4_checkChange_5 : decode cX4_checkChange 5 = .ok (.getfield 19, 3) := by decide +kernel
theorem dX4_checkChange_8 : decode cX4_checkChange 8 = .ok (.invokevirtual 184, 3) := by decide +kernel
theorem dX4_checkChange_11 : decode cX4_checkChange 11 = .ok (.ifCond .eq 13, 3) := by decide +kernel
theorem dX4_checkChange_14 : decode cX4_checkChange 14 = .ok (.new 188, 3) := by decide +kernel
theorem dX4_checkChange_17 : decode cX4_checkChange 17 = .ok (.dup, 1) := by decide +kernel
theorem dX4_checkChange_18 : decode cX4_checkChange 18 = .ok (.ldc 190, 2) := by decide +kernel
theorem dX4_checkChange_20 : decode cX4_checkChange 20 = .ok (.invokespecial 192, 3) := by decide +kernel
theorem dX4_checkChange_23 : decode cX4_checkChange 23 = .ok (.athrow, 1) := by decide +kernel
theorem dX4_checkChange_24 : decode cX4_checkChange 24 = .ok (.return_, 1) := by decide +kernel
theorem dX4_nodeThere_0 : decode cX4_nodeThere 0 = .ok (.iload_n 0, 1) := by decide +kernel
theorem dX4_nodeThere_1 : decode cX4_nodeThere 1 = .ok (.iload_n 1, 1) := by decide +kernel
theorem dX4_nodeThere_2 : decode cX4_nodeThere 2 = .ok (.invokestatic 174, 3) := by decide +kernel
theorem dX4_nodeThere_5 : decode cX4_nodeThere 5 = .ok (.istore_n 2, 1) := by decide +kernel
theorem dX4_nodeThere_6 : decode cX4_nodeThere 6 = .ok (.iload_n 2, 1) := by decide +kernel
theorem dX4_nodeThere_7 : decode cX4_nodeThere 7 = .ok (.iconst (-1), 1) := by decide +kernel
theorem dX4_nodeThere_8 : decode cX4_nodeThere 8 = .ok (.if_icmp .ne 13, 3) := by decide +kernel
theorem dX4_nodeThere_11 : decode cX4_nodeThere 11 = .ok (.new 166, 3) := by decide +kernel
theorem dX4_nodeThere_14 : decode cX4_nodeThere 14 = .ok (.dup, 1) := by decide +kernel
theorem dX4_nodeThere_15 : decode cX4_nodeThere 15 = .ok (.ldc 168, 2) := by decide +kernel
theorem dX4_nodeThere_17 : decode cX4_nodeThere 17 = .ok (.invokespecial 170, 3) := by decide +kernel
theorem dX4_nodeThere_20 : decode cX4_nodeThere 20 = .ok (.athrow, 1) := by decide +kernel
theorem dX4_nodeThere_21 : decode cX4_nodeThere 21 = .ok (.iload_n 2, 1) := by decide +kernel
theorem dX4_nodeThere_22 : decode cX4_nodeThere 22 = .ok (.ireturn, 1) := by decide +kernel
theorem dX4_only_0 : decode cX4_only 0 = .ok (.iconst 1, 1) := by decide +kernel
theorem dX4_only_1 : decode cX4_only 1 = .ok (.iload_n 0, 1) := by decide +kernel
theorem dX4_only_2 : decode cX4_only 2 = .ok (.ishl, 1) := by decide +kernel
theorem dX4_only_3 : decode cX4_only 3 = .ok (.ireturn, 1) := by decide +kernel
theorem dX4_has_0 : decode cX4_has 0 = .ok (.iload_n 0, 1) := by decide +kernel
theorem dX4_has_1 : decode cX4_has 1 = .ok (.iload_n 1, 1) := by decide +kernel
theorem dX4_has_2 : decode cX4_has 2 = .ok (.invokestatic 82, 3) := by decide +kernel
theorem dX4_has_5 : decode cX4_has 5 = .ok (.iand, 1) := by decide +kernel
theorem dX4_has_6 : decode cX4_has 6 = .ok (.ifCond .eq 7, 3) := by decide +kernel
theorem dX4_has_9 : decode cX4_has 9 = .ok (.iconst 1, 1) := by decide +kernel
theorem dX4_has_10 : decode cX4_has 10 = .ok (.goto 4, 3) := by decide +kernel
theorem dX4_has_13 : decode cX4_has 13 = .ok (.iconst 0, 1) := by decide +kernel
theorem dX4_has_14 : decode cX4_has 14 = .ok (.ireturn, 1) := by decide +kernel
theorem dX4_nodeAtPlace_0 : decode cX4_nodeAtPlace 0 = .ok (.iconst 0, 1) := by decide +kernel
theorem dX4_nodeAtPlace_1 : decode cX4_nodeAtPlace 1 = .ok (.istore_n 2, 1) := by decide +kernel
theorem dX4_nodeAtPlace_2 : decode cX4_nodeAtPlace 2 = .ok (.iconst 0, 1) := by decide +kernel
theorem dX4_nodeAtPlace_3 : decode cX4_nodeAtPlace 3 = .ok (.istore_n 3, 1) := by decide +kernel
theorem dX4_nodeAtPlace_4 : decode cX4_nodeAtPlace 4 = .ok (.iload_n 3, 1) := by decide +kernel
theorem dX4_nodeAtPlace_5 : decode cX4_nodeAtPlace 5 = .ok (.bipush 14, 2) := by decide +kernel
theorem dX4_nodeAtPlace_7 : decode cX4_nodeAtPlace 7 = .ok (.if_icmp .ge 27, 3) := by decide +kernel
theorem dX4_nodeAtPlace_10 : decode cX4_nodeAtPlace 10 = .ok (.iload_n 0, 1) := by decide +kernel
theorem dX4_nodeAtPlace_11 : decode cX4_nodeAtPlace 11 = .ok (.iload_n 3, 1) := by decide +kernel
theorem dX4_nodeAtPlace_12 : decode cX4_nodeAtPlace 12 = .ok (.invokestatic 45, 3) := by decide +kernel
theorem dX4_nodeAtPlace_15 : decode cX4_nodeAtPlace 15 = .ok (.ifCond .eq 13, 3) := by decide +kernel
theorem dX4_nodeAtPlace_18 : decode cX4_nodeAtPlace 18 = .ok (.iload_n 2, 1) := by decide +kernel
theorem dX4_nodeAtPlace_19 : decode cX4_nodeAtPlace 19 = .ok (.iload_n 1, 1) := by decide +kernel
theorem dX4_nodeAtPlace_20 : decode cX4_nodeAtPlace 20 = .ok (.if_icmp .ne 5, 3) := by decide +kernel
theorem dX4_nodeAtPlace_23 : decode cX4_nodeAtPlace 23 = .ok (.iload_n 3, 1) := by decide +kernel
theorem dX4_nodeAtPlace_24 : decode cX4_nodeAtPlace 24 = .ok (.ireturn, 1) := by decide +kernel
theorem dX4_nodeAtPlace_25 : decode cX4_nodeAtPlace 25 = .ok (.iinc 2 1, 3) := by decide +kernel
theorem dX4_nodeAtPlace_28 : decode cX4_nodeAtPlace 28 = .ok (.iinc 3 1, 3) := by decide +kernel
theorem dX4_nodeAtPlace_31 : decode cX4_nodeAtPlace 31 = .ok (.goto (-27), 3) := by decide +kernel
theorem dX4_nodeAtPlace_34 : decode cX4_nodeAtPlace 34 = .ok (.iconst (-1), 1) := by decide +kernel
theorem dX4_nodeAtPlace_35 : decode cX4_nodeAtPlace 35 = .ok (.ireturn, 1) := by decide +kernel
theorem dJ6_bitCount_0f7a4_0 : decode cJ6_bitCount_0f7a4 0 = .ok (.iload_n 0, 1) := by decide +kernel
theorem dJ6_bitCount_0f7a4_1 : decode cJ6_bitCount_0f7a4 1 = .ok (.iload_n 0, 1) := by decide +kernel
theorem dJ6_bitCount_0f7a4_2 : decode cJ6_bitCount_0f7a4 2 = .ok (.iconst 1, 1) := by decide +kernel
theorem dJ6_bitCount_0f7a4_3 : decode cJ6_bitCount_0f7a4 3 = .ok (.iushr, 1) := by decide +kernel
theorem dJ6_bitCount_0f7a4_4 : decode cJ6_bitCount_0f7a4 4 = .ok (.ldc_w 265, 3) := by decide +kernel
theorem dJ6_bitCount_0f7a4_7 : decode cJ6_bitCount_0f7a4 7 = .ok (.iand, 1) := by decide +kernel
theorem dJ6_bitCount_0f7a4_8 : decode cJ6_bitCount_0f7a4 8 = .ok (.isub, 1) := by decide +kernel
theorem dJ6_bitCount_0f7a4_9 : decode cJ6_bitCount_0f7a4 9 = .ok (.istore_n 0, 1) := by decide +kernel
theorem dJ6_bitCount_0f7a4_10 : decode cJ6_bitCount_0f7a4 10 = .ok (.iload_n 0, 1) := by decide +kernel
theorem dJ6_bitCount_0f7a4_11 : decode cJ6_bitCount_0f7a4 11 = .ok (.ldc_w 266, 3) := by decide +kernel
theorem dJ6_bitCount_0f7a4_14 : decode cJ6_bitCount_0f7a4 14 = .ok (.iand, 1) := by decide +kernel
theorem dJ6_bitCount_0f7a4_15 : decode cJ6_bitCount_0f7a4 15 = .ok (.iload_n 0, 1) := by decide +kernel
theorem dJ6_bitCount_0f7a4_16 : decode cJ6_bitCount_0f7a4 16 = .ok (.iconst 2, 1) := by decide +kernel
theorem dJ6_bitCount_0f7a4_17 : decode cJ6_bitCount_0f7a4 17 = .ok (.iushr, 1) := by decide +kernel
theorem dJ6_bitCount_0f7a4_18 : decode cJ6_bitCount_0f7a4 18 = .ok (.ldc_w 266, 3) := by decide +kernel
theorem dJ6_bitCount_0f7a4_21 : decode cJ6_bitCount_0f7a4 21 = .ok (.iand, 1) := by decide +kernel
theorem dJ6_bitCount_0f7a4_22 : decode cJ6_bitCount_0f7a4 22 = .ok (.iadd, 1) := by decide +kernel
theorem dJ6_bitCount_0f7a4_23 : decode cJ6_bitCount_0f7a4 23 = .ok (.istore_n 0, 1) := by decide +kernel
theorem dJ6_bitCount_0f7a4_24 : decode cJ6_bitCount_0f7a4 24 = .ok (.iload_n 0, 1) := by decide +kernel
theorem dJ6_bitCount_0f7a4_25 : decode cJ6_bitCount_0f7a4 25 = .ok (.iload_n 0, 1) := by decide +kernel
theorem dJ6_bitCount_0f7a4_26 : decode cJ6_bitCount_0f7a4 26 = .ok (.iconst 4, 1) := by decide +kernel
theorem dJ6_bitCount_0f7a4_27 : decode cJ6_bitCount_0f7a4 27 = .ok (.iushr, 1) := by decide +kernel
theorem dJ6_bitCount_0f7a4_28 : decode cJ6_bitCount_0f7a4 28 = .ok (.iadd, 1) := by decide +kernel
theorem dJ6_bitCount_0f7a4_29 : decode cJ6_bitCount_0f7a4 29 = .ok (.ldc_w 267, 3) := by decide +kernel
theorem dJ6_bitCount_0f7a4_32 : decode cJ6_bitCount_0f7a4 32 = .ok (.iand, 1) := by decide +kernel
theorem dJ6_bitCount_0f7a4_33 : decode cJ6_bitCount_0f7a4 33 = .ok (.istore_n 0, 1) := by decide +kernel
theorem dJ6_bitCount_0f7a4_34 : decode cJ6_bitCount_0f7a4 34 = .ok (.iload_n 0, 1) := by decide +kernel
theorem dJ6_bitCount_0f7a4_35 : decode cJ6_bitCount_0f7a4 35 = .ok (.iload_n 0, 1) := by decide +kernel
theorem dJ6_bitCount_0f7a4_36 : decode cJ6_bitCount_0f7a4 36 = .ok (.bipush 8, 2) := by decide +kernel
theorem dJ6_bitCount_0f7a4_38 : decode cJ6_bitCount_0f7a4 38 = .ok (.iushr, 1) := by decide +kernel
theorem dJ6_bitCount_0f7a4_39 : decode cJ6_bitCount_0f7a4 39 = .ok (.iadd, 1) := by decide +kernel
theorem dJ6_bitCount_0f7a4_40 : decode cJ6_bitCount_0f7a4 40 = .ok (.istore_n 0, 1) := by decide +kernel
theorem dJ6_bitCount_0f7a4_41 : decode cJ6_bitCount_0f7a4 41 = .ok (.iload_n 0, 1) := by decide +kernel
theorem dJ6_bitCount_0f7a4_42 : decode cJ6_bitCount_0f7a4 42 = .ok (.iload_n 0, 1) := by decide +kernel
theorem dJ6_bitCount_0f7a4_43 : decode cJ6_bitCount_0f7a4 43 = .ok (.bipush 16, 2) := by decide +kernel
theorem dJ6_bitCount_0f7a4_45 : decode cJ6_bitCount_0f7a4 45 = .ok (.iushr, 1) := by decide +kernel
theorem dJ6_bitCount_0f7a4_46 : decode cJ6_bitCount_0f7a4 46 = .ok (.iadd, 1) := by decide +kernel
theorem dJ6_bitCount_0f7a4_47 : decode cJ6_bitCount_0f7a4 47 = .ok (.istore_n 0, 1) := by decide +kernel
theorem dJ6_bitCount_0f7a4_48 : decode cJ6_bitCount_0f7a4 48 = .ok (.iload_n 0, 1) := by decide +kernel
theorem dJ6_bitCount_0f7a4_49 : decode cJ6_bitCount_0f7a4 49 = .ok (.bipush 63, 2) := by decide +kernel
theorem dJ6_bitCount_0f7a4_51 : decode cJ6_bitCount_0f7a4 51 = .ok (.iand, 1) := by decide +kernel
theorem dJ6_bitCount_0f7a4_52 : decode cJ6_bitCount_0f7a4 52 = .ok (.ireturn, 1) := by decide +kernel
theorem dJ9_min_7cf53_0 : decode cJ9_min_7cf53 0 = .ok (.iload_n 0, 1) := by decide +kernel
theorem dJ9_min_7cf53_1 : decode cJ9_min_7cf53 1 = .ok (.iload_n 1, 1) := by decide +kernel
theorem dJ9_min_7cf53_2 : decode cJ9_min_7cf53 2 = .ok (.if_icmp .gt 7, 3) := by decide +kernel
theorem dJ9_min_7cf53_5 : decode cJ9_min_7cf53 5 = .ok (.iload_n 0, 1) := by decide +kernel
theorem dJ9_min_7cf53_6 : decode cJ9_min_7cf53 6 = .ok (.goto 4, 3) := by decide +kernel
theorem dJ9_min_7cf53_9 : decode cJ9_min_7cf53 9 = .ok (.iload_n 1, 1) := by decide +kernel
theorem dJ9_min_7cf53_10 : decode cJ9_min_7cf53 10 = .ok (.ireturn, 1) := by decide +kernel
theorem dL_cell_0 : decode cL_cell 0 = .ok (.iload_n 1, 1) := by decide +kernel
theorem dL_cell_1 : decode cL_cell 1 = .ok (.aload_n 0, 1) := by decide +kernel
theorem dL_cell_2 : decode cL_cell 2 = .ok (.arraylength, 1) := by decide +kernel
theorem dL_cell_3 : decode cL_cell 3 = .ok (.if_icmp .ge 9, 3) := by decide +kernel
theorem dL_cell_6 : decode cL_cell 6 = .ok (.aload_n 0, 1) := by decide +kernel
theorem dL_cell_7 : decode cL_cell 7 = .ok (.iload_n 1, 1) := by decide +kernel
theorem dL_cell_8 : decode cL_cell 8 = .ok (.iaload, 1) := by decide +kernel
theorem dL_cell_9 : decode cL_cell 9 = .ok (.goto 15, 3) := by decide +kernel
theorem dL_cell_12 : decode cL_cell 12 = .ok (.ldc 7, 2) := by decide +kernel
theorem dL_cell_14 : decode cL_cell 14 = .ok (.iload_n 1, 1) := by decide +kernel
theorem dL_cell_15 : decode cL_cell 15 = .ok (.sipush 7001, 3) := by decide +kernel
theorem dL_cell_18 : decode cL_cell 18 = .ok (.irem, 1) := by decide +kernel
theorem dL_cell_19 : decode cL_cell 19 = .ok (.imul, 1) := by decide +kernel
theorem dL_cell_20 : decode cL_cell 20 = .ok (.sipush 3391, 3) := by decide +kernel
theorem dL_cell_23 : decode cL_cell 23 = .ok (.iadd, 1) := by decide +kernel
theorem dL_cell_24 : decode cL_cell 24 = .ok (.ldc 8, 2) := by decide +kernel
theorem dL_cell_26 : decode cL_cell 26 = .ok (.iand, 1) := by decide +kernel
theorem dL_cell_27 : decode cL_cell 27 = .ok (.ireturn, 1) := by decide +kernel
theorem dL_need_0 : decode cL_need 0 = .ok (.aload_n 0, 1) := by decide +kernel
theorem dL_need_1 : decode cL_need 1 = .ok (.iload_n 1, 1) := by decide +kernel
theorem dL_need_2 : decode cL_need 2 = .ok (.iload_n 2, 1) := by decide +kernel
theorem dL_need_3 : decode cL_need 3 = .ok (.invokevirtual 9, 3) := by decide +kernel
theorem dL_need_6 : decode cL_need 6 = .ok (.ifCond .eq 7, 3) := by decide +kernel
theorem dL_need_9 : decode cL_need 9 = .ok (.iconst 1, 1) := by decide +kernel
theorem dL_need_10 : decode cL_need 10 = .ok (.goto 4, 3) := by decide +kernel
theorem dL_need_13 : decode cL_need 13 = .ok (.iconst 0, 1) := by decide +kernel
theorem dL_need_14 : decode cL_need 14 = .ok (.ireturn, 1) := by decide +kernel
theorem dL_need_15 : decode cL_need 15 = .ok (.astore_n 3, 1) := by decide +kernel
theorem dL_need_16 : decode cL_need 16 = .ok (.bipush (-101), 2) := by decide +kernel
theorem dL_need_18 : decode cL_need 18 = .ok (.ireturn, 1) := by decide +kernel
theorem dL_need_19 : decode cL_need 19 = .ok (.astore_n 3, 1) := by decide +kernel
theorem dL_need_20 : decode cL_need 20 = .ok (.bipush (-102), 2) := by decide +kernel
theorem dL_need_22 : decode cL_need 22 = .ok (.ireturn, 1) := by decide +kernel
theorem dL_release_0 : decode cL_release 0 = .ok (.aload_n 0, 1) := by decide +kernel
theorem dL_release_1 : decode cL_release 1 = .ok (.iload_n 1, 1) := by decide +kernel
theorem dL_release_2 : decode cL_release 2 = .ok (.iload_n 2, 1) := by decide +kernel
theorem dL_release_3 : decode cL_release 3 = .ok (.invokevirtual 19, 3) := by decide +kernel
theorem dL_release_6 : decode cL_release 6 = .ok (.ifCond .eq 7, 3) := by decide +kernel
theorem dL_release_9 : decode cL_release 9 = .ok (.iconst 1, 1) := by decide +kernel
theorem dL_release_10 : decode cL_release 10 = .ok (.goto 4, 3) := by decide +kernel
theorem dL_release_13 : decode cL_release 13 = .ok (.iconst 0, 1) := by decide +kernel
theorem dL_release_14 : decode cL_release 14 = .ok (.ireturn, 1) := by decide +kernel
theorem dL_release_15 : decode cL_release 15 = .ok (.astore_n 3, 1) := by decide +kernel
theorem dL_release_16 : decode cL_release 16 = .ok (.bipush (-101), 2) := by decide +kernel
theorem dL_release_18 : decode cL_release 18 = .ok (.ireturn, 1) := by decide +kernel
theorem dL_needs_0 : decode cL_needs 0 = .ok (.aload_n 0, 1) := by decide +kernel
theorem dL_needs_1 : decode cL_needs 1 = .ok (.iload_n 1, 1) := by decide +kernel
theorem dL_needs_2 : decode cL_needs 2 = .ok (.iload_n 2, 1) := by decide +kernel
theorem dL_needs_3 : decode cL_needs 3 = .ok (.invokevirtual 22, 3) := by decide +kernel
theorem dL_needs_6 : decode cL_needs 6 = .ok (.ifCond .eq 7, 3) := by decide +kernel
theorem dL_needs_9 : decode cL_needs 9 = .ok (.iconst 1, 1) := by decide +kernel
theorem dL_needs_10 : decode cL_needs 10 = .ok (.goto 4, 3) := by decide +kernel
theorem dL_needs_13 : decode cL_needs 13 = .ok (.iconst 0, 1) := by decide +kernel
theorem dL_needs_14 : decode cL_needs 14 = .ok (.ireturn, 1) := by decide +kernel
theorem dL_needs_15 : decode cL_needs 15 = .ok (.astore_n 3, 1) := by decide +kernel
theorem dL_needs_16 : decode cL_needs 16 = .ok (.bipush (-101), 2) := by decide +kernel
theorem dL_needs_18 : decode cL_needs 18 = .ok (.ireturn, 1) := by decide +kernel
theorem dL_depends_0 : decode cL_depends 0 = .ok (.aload_n 0, 1) := by decide +kernel
theorem dL_depends_1 : decode cL_depends 1 = .ok (.iload_n 1, 1) := by decide +kernel
theorem dL_depends_2 : decode cL_depends 2 = .ok (.iload_n 2, 1) := by decide +kernel
theorem dL_depends_3 : decode cL_depends 3 = .ok (.invokevirtual 25, 3) := by decide +kernel
theorem dL_depends_6 : decode cL_depends 6 = .ok (.ifCond .eq 7, 3) := by decide +kernel
theorem dL_depends_9 : decode cL_depends 9 = .ok (.iconst 1, 1) := by decide +kernel
theorem dL_depends_10 : decode cL_depends 10 = .ok (.goto 4, 3) := by decide +kernel
theorem dL_depends_13 : decode cL_depends 13 = .ok (.iconst 0, 1) := by decide +kernel
theorem dL_depends_14 : decode cL_depends 14 = .ok (.ireturn, 1) := by decide +kernel
theorem dL_depends_15 : decode cL_depends 15 = .ok (.astore_n 3, 1) := by decide +kernel
theorem dL_depends_16 : decode cL_depends 16 = .ok (.bipush (-101), 2) := by decide +kernel
theorem dL_depends_18 : decode cL_depends 18 = .ok (.ireturn, 1) := by decide +kernel
theorem dL_height_0 : decode cL_height 0 = .ok (.aload_n 0, 1) := by decide +kernel
theorem dL_height_1 : decode cL_height 1 = .ok (.iload_n 1, 1) := by decide +kernel
theorem dL_height_2 : decode cL_height 2 = .ok (.invokevirtual 28, 3) := by decide +kernel
theorem dL_height_5 : decode cL_height 5 = .ok (.ireturn, 1) := by decide +kernel
theorem dL_height_6 : decode cL_height 6 = .ok (.astore_n 2, 1) := by decide +kernel
theorem dL_height_7 : decode cL_height 7 = .ok (.bipush (-101), 2) := by decide +kernel
theorem dL_height_9 : decode cL_height 9 = .ok (.ireturn, 1) := by decide +kernel
theorem dL_tick_0 : decode cL_tick 0 = .ok (.aload_n 0, 1) := by decide +kernel
theorem dL_tick_1 : decode cL_tick 1 = .ok (.iload_n 1, 1) := by decide +kernel
theorem dL_tick_2 : decode cL_tick 2 = .ok (.invokevirtual 32, 3) := by decide +kernel
theorem dL_tick_5 : decode cL_tick 5 = .ok (.ireturn, 1) := by decide +kernel
theorem dL_tick_6 : decode cL_tick 6 = .ok (.astore_n 2, 1) := by decide +kernel
theorem dL_tick_7 : decode cL_tick 7 = .ok (.bipush (-102), 2) := by decide +kernel
theorem dL_tick_9 : decode cL_tick 9 = .ok (.ireturn, 1) := by decide +kernel
theorem dL_raise_0 : decode cL_raise 0 = .ok (.aload_n 0, 1) := by decide +kernel
theorem dL_raise_1 : decode cL_raise 1 = .ok (.iload_n 1, 1) := by decide +kernel
theorem dL_raise_2 : decode cL_raise 2 = .ok (.invokevirtual 35, 3) := by decide +kernel
theorem dL_raise_5 : decode cL_raise 5 = .ok (.ireturn, 1) := by decide +kernel
theorem dL_raise_6 : decode cL_raise 6 = .ok (.astore_n 2, 1) := by decide +kernel
theorem dL_raise_7 : decode cL_raise 7 = .ok (.bipush (-101), 2) := by decide +kernel
theorem dL_raise_9 : decode cL_raise 9 = .ok (.ireturn, 1) := by decide +kernel
theorem dL_raise_10 : decode cL_raise 10 = .ok (.astore_n 2, 1) := by decide +kernel
theorem dL_raise_11 : decode cL_raise 11 = .ok (.bipush (-103), 2) := by decide +kernel
theorem dL_raise_13 : decode cL_raise 13 = .ok (.ireturn, 1) := by decide +kernel
theorem dL_clear_0 : decode cL_clear 0 = .ok (.aload_n 0, 1) := by decide +kernel
theorem dL_clear_1 : decode cL_clear 1 = .ok (.iload_n 1, 1) := by decide +kernel
theorem dL_clear_2 : decode cL_clear 2 = .ok (.invokevirtual 40, 3) := by decide +kernel
theorem dL_clear_5 : decode cL_clear 5 = .ok (.ireturn, 1) := by decide +kernel
theorem dL_clear_6 : decode cL_clear 6 = .ok (.astore_n 2, 1) := by decide +kernel
theorem dL_clear_7 : decode cL_clear 7 = .ok (.bipush (-101), 2) := by decide +kernel
theorem dL_clear_9 : decode cL_clear 9 = .ok (.ireturn, 1) := by decide +kernel
theorem dL_clear_10 : decode cL_clear 10 = .ok (.astore_n 2, 1) := by decide +kernel
theorem dL_clear_11 : decode cL_clear 11 = .ok (.bipush (-103), 2) := by decide +kernel
theorem dL_clear_13 : decode cL_clear 13 = .ok (.ireturn, 1) := by decide +kernel
theorem dL_ticket_0 : decode cL_ticket 0 = .ok (.aload_n 0, 1) := by decide +kernel
theorem dL_ticket_1 : decode cL_ticket 1 = .ok (.iload_n 1, 1) := by decide +kernel
theorem dL_ticket_2 : decode cL_ticket 2 = .ok (.invokevirtual 43, 3) := by decide +kernel
theorem dL_ticket_5 : decode cL_ticket 5 = .ok (.ireturn, 1) := by decide +kernel
theorem dL_ticket_6 : decode cL_ticket 6 = .ok (.astore_n 2, 1) := by decide +kernel
theorem dL_ticket_7 : decode cL_ticket 7 = .ok (.bipush (-101), 2) := by decide +kernel
theorem dL_ticket_9 : decode cL_ticket 9 = .ok (.ireturn, 1) := by decide +kernel
theorem dL_plausible_0 : decode cL_plausible 0 = .ok (.aload_n 0, 1) := by decide +kernel
theorem dL_plausible_1 : decode cL_plausible 1 = .ok (.iload_n 1, 1) := by decide +kernel
theorem dL_plausible_2 : decode cL_plausible 2 = .ok (.invokevirtual 46, 3) := by decide +kernel
theorem dL_plausible_5 : decode cL_plausible 5 = .ok (.ifCond .eq 7, 3) := by decide +kernel
theorem dL_plausible_8 : decode cL_plausible 8 = .ok (.iconst 1, 1) := by decide +kernel
theorem dL_plausible_9 : decode cL_plausible 9 = .ok (.goto 4, 3) := by decide +kernel
theorem dL_plausible_12 : decode cL_plausible 12 = .ok (.iconst 0, 1) := by decide +kernel
theorem dL_plausible_13 : decode cL_plausible 13 = .ok (.ireturn, 1) := by decide +kernel
theorem dL_plausible_14 : decode cL_plausible 14 = .ok (.astore_n 2, 1) := by decide +kernel
theorem dL_plausible_15 : decode cL_plausible 15 = .ok (.bipush (-101), 2) := by decide +kernel
theorem dL_plausible_17 : decode cL_plausible 17 = .ok (.ireturn, 1) := by decide +kernel
theorem dL_cause_0 : decode cL_cause 0 = .ok (.aload_n 0, 1) := by decide +kernel
theorem dL_cause_1 : decode cL_cause 1 = .ok (.iload_n 1, 1) := by decide +kernel
theorem dL_cause_2 : decode cL_cause 2 = .ok (.invokevirtual 50, 3) := by decide +kernel
theorem dL_cause_5 : decode cL_cause 5 = .ok (.ireturn, 1) := by decide +kernel
theorem dL_cause_6 : decode cL_cause 6 = .ok (.astore_n 2, 1) := by decide +kernel
theorem dL_cause_7 : decode cL_cause 7 = .ok (.bipush (-101), 2) := by decide +kernel
theorem dL_cause_9 : decode cL_cause 9 = .ok (.ireturn, 1) := by decide +kernel
theorem dL_tried_0 : decode cL_tried 0 = .ok (.aload_n 0, 1) := by decide +kernel
theorem dL_tried_1 : decode cL_tried 1 = .ok (.iload_n 1, 1) := by decide +kernel
theorem dL_tried_2 : decode cL_tried 2 = .ok (.invokevirtual 53, 3) := by decide +kernel
theorem dL_tried_5 : decode cL_tried 5 = .ok (.ireturn, 1) := by decide +kernel
theorem dL_tried_6 : decode cL_tried 6 = .ok (.astore_n 2, 1) := by decide +kernel
theorem dL_tried_7 : decode cL_tried 7 = .ok (.bipush (-101), 2) := by decide +kernel
theorem dL_tried_9 : decode cL_tried 9 = .ok (.ireturn, 1) := by decide +kernel
theorem dL_greedy_0 : decode cL_greedy 0 = .ok (.aload_n 0, 1) := by decide +kernel
theorem dL_greedy_1 : decode cL_greedy 1 = .ok (.iload_n 1, 1) := by decide +kernel
theorem dL_greedy_2 : decode cL_greedy 2 = .ok (.invokevirtual 56, 3) := by decide +kernel
theorem dL_greedy_5 : decode cL_greedy 5 = .ok (.ireturn, 1) := by decide +kernel
theorem dL_greedy_6 : decode cL_greedy 6 = .ok (.astore_n 2, 1) := by decide +kernel
theorem dL_greedy_7 : decode cL_greedy 7 = .ok (.bipush (-101), 2) := by decide +kernel
theorem dL_greedy_9 : decode cL_greedy 9 = .ok (.ireturn, 1) := by decide +kernel
theorem dL_causeOf_0 : decode cL_causeOf 0 = .ok (.aload_n 0, 1) := by decide +kernel
theorem dL_causeOf_1 : decode cL_causeOf 1 = .ok (.iload_n 1, 1) := by decide +kernel
theorem dL_causeOf_2 : decode cL_causeOf 2 = .ok (.invokevirtual 59, 3) := by decide +kernel
theorem dL_causeOf_5 : decode cL_causeOf 5 = .ok (.ireturn, 1) := by decide +kernel
theorem dL_causeOf_6 : decode cL_causeOf 6 = .ok (.astore_n 2, 1) := by decide +kernel
theorem dL_causeOf_7 : decode cL_causeOf 7 = .ok (.bipush (-101), 2) := by decide +kernel
theorem dL_causeOf_9 : decode cL_causeOf 9 = .ok (.ireturn, 1) := by decide +kernel
theorem dL_hangs_0 : decode cL_hangs 0 = .ok (.iconst 1, 1) := by decide +kernel
theorem dL_hangs_1 : decode cL_hangs 1 = .ok (.istore_n 1, 1) := by decide +kernel
theorem dL_hangs_2 : decode cL_hangs 2 = .ok (.iconst 0, 1) := by decide +kernel
theorem dL_hangs_3 : decode cL_hangs 3 = .ok (.istore_n 2, 1) := by decide +kernel
theorem dL_hangs_4 : decode cL_hangs 4 = .ok (.iload_n 2, 1) := by decide +kernel
theorem dL_hangs_5 : decode cL_hangs 5 = .ok (.bipush 14, 2) := by decide +kernel
theorem dL_hangs_7 : decode cL_hangs 7 = .ok (.if_icmp .ge 191, 3) := by decide +kernel
theorem dL_hangs_10 : decode cL_hangs 10 = .ok (.iload_n 1, 1) := by decide +kernel
theorem dL_hangs_11 : decode cL_hangs 11 = .ok (.ifCond .eq 187, 3) := by decide +kernel
theorem dL_hangs_14 : decode cL_hangs 14 = .ok (.iconst 0, 1) := by decide +kernel
theorem dL_hangs_15 : decode cL_hangs 15 = .ok (.istore_n 3, 1) := by decide +kernel
theorem dL_hangs_16 : decode cL_hangs 16 = .ok (.iconst 0, 1) := by decide +kernel
theorem dL_hangs_17 : decode cL_hangs 17 = .ok (.istore 4, 2) := by decide +kernel
theorem dL_hangs_19 : decode cL_hangs 19 = .ok (.iload 4, 2) := by decide +kernel
theorem dL_hangs_21 : decode cL_hangs 21 = .ok (.bipush 14, 2) := by decide +kernel
theorem dL_hangs_23 : decode cL_hangs 23 = .ok (.if_icmp .ge 150, 3) := by decide +kernel
theorem dL_hangs_26 : decode cL_hangs 26 = .ok (.iload_n 1, 1) := by decide +kernel
theorem dL_hangs_27 : decode cL_hangs 27 = .ok (.ifCond .eq 146, 3) := by decide +kernel
theorem dL_hangs_30 : decode cL_hangs 30 = .ok (.aload_n 0, 1) := by decide +kernel
theorem dL_hangs_31 : decode cL_hangs 31 = .ok (.iload_n 2, 1) := by decide +kernel
theorem dL_hangs_32 : decode cL_hangs 32 = .ok (.iload 4, 2) := by decide +kernel
theorem dL_hangs_34 : decode cL_hangs 34 = .ok (.invokestatic 62, 3) := by decide +kernel
theorem dL_hangs_37 : decode cL_hangs 37 = .ok (.iconst 1, 1) := by decide +kernel
theorem dL_hangs_38 : decode cL_hangs 38 = .ok (.if_icmp .ne 7, 3) := by decide +kernel
theorem dL_hangs_41 : decode cL_hangs 41 = .ok (.iconst 1, 1) := by decide +kernel
theorem dL_hangs_42 : decode cL_hangs 42 = .ok (.goto 4, 3) := by decide +kernel
theorem dL_hangs_45 : decode cL_hangs 45 = .ok (.iconst 0, 1) := by decide +kernel
theorem dL_hangs_46 : decode cL_hangs 46 = .ok (.istore 5, 2) := by decide +kernel
theorem dL_hangs_48 : decode cL_hangs 48 = .ok (.iload 5, 2) := by decide +kernel
theorem dL_hangs_50 : decode cL_hangs 50 = .ok (.ifCond .eq 26, 3) := by decide +kernel
theorem dL_hangs_53 : decode cL_hangs 53 = .ok (.aload_n 0, 1) := by decide +kernel
theorem dL_hangs_54 : decode cL_hangs 54 = .ok (.iload 4, 2) := by decide +kernel
theorem dL_hangs_56 : decode cL_hangs 56 = .ok (.invokestatic 67, 3) := by decide +kernel
theorem dL_hangs_59 : decode cL_hangs 59 = .ok (.iconst 1, 1) := by decide +kernel
theorem dL_hangs_60 : decode cL_hangs 60 = .ok (.iadd, 1) := by decide +kernel
theorem dL_hangs_61 : decode cL_hangs 61 = .ok (.iload_n 3, 1) := by decide +kernel
theorem dL_hangs_62 : decode cL_hangs 62 = .ok (.if_icmp .le 14, 3) := by decide +kernel
theorem dL_hangs_65 : decode cL_hangs 65 = .ok (.aload_n 0, 1) := by decide +kernel
theorem dL_hangs_66 : decode cL_hangs 66 = .ok (.iload 4, 2) := by decide +kernel
theorem dL_hangs_68 : decode cL_hangs 68 = .ok (.invokestatic 67, 3) := by decide +kernel
theorem dL_hangs_71 : decode cL_hangs 71 = .ok (.iconst 1, 1) := by decide +kernel
theorem dL_hangs_72 : decode cL_hangs 72 = .ok (.iadd, 1) := by decide +kernel
theorem dL_hangs_73 : decode cL_hangs 73 = .ok (.goto 4, 3) := by decide +kernel
theorem dL_hangs_76 : decode cL_hangs 76 = .ok (.iload_n 3, 1) := by decide +kernel
theorem dL_hangs_77 : decode cL_hangs 77 = .ok (.istore_n 3, 1) := by decide +kernel
theorem dL_hangs_78 : decode cL_hangs 78 = .ok (.iconst 0, 1) := by decide +kernel
theorem dL_hangs_79 : decode cL_hangs 79 = .ok (.istore 6, 2) := by decide +kernel
theorem dL_hangs_81 : decode cL_hangs 81 = .ok (.iload 6, 2) := by decide +kernel
theorem dL_hangs_83 : decode cL_hangs 83 = .ok (.bipush 14, 2) := by decide +kernel
theorem dL_hangs_85 : decode cL_hangs 85 = .ok (.if_icmp .ge 44, 3) := by decide +kernel
theorem dL_hangs_88 : decode cL_hangs 88 = .ok (.iload 5, 2) := by decide +kernel
theorem dL_hangs_90 : decode cL_hangs 90 = .ok (.ifCond .ne 26, 3) := by decide +kernel
theorem dL_hangs_93 : decode cL_hangs 93 = .ok (.aload_n 0, 1) := by decide +kernel
theorem dL_hangs_94 : decode cL_hangs 94 = .ok (.iload_n 2, 1) := by decide +kernel
theorem dL_hangs_95 : decode cL_hangs 95 = .ok (.iload 6, 2) := by decide +kernel
theorem dL_hangs_97 : decode cL_hangs 97 = .ok (.invokestatic 62, 3) := by decide +kernel
theorem dL_hangs_100 : decode cL_hangs 100 = .ok (.iconst 1, 1) := by decide +kernel
theorem dL_hangs_101 : decode cL_hangs 101 = .ok (.if_icmp .ne 19, 3) := by decide +kernel
theorem dL_hangs_104 : decode cL_hangs 104 = .ok (.aload_n 0, 1) := by decide +kernel
theorem dL_hangs_105 : decode cL_hangs 105 = .ok (.iload 6, 2) := by decide +kernel
theorem dL_hangs_107 : decode cL_hangs 107 = .ok (.iload 4, 2) := by decide +kernel
theorem dL_hangs_109 : decode cL_hangs 109 = .ok (.invokestatic 70, 3) := by decide +kernel
theorem dL_hangs_112 : decode cL_hangs 112 = .ok (.iconst 1, 1) := by decide +kernel
theorem dL_hangs_113 : decode cL_hangs 113 = .ok (.if_icmp .ne 7, 3) := by decide +kernel
theorem dL_hangs_116 : decode cL_hangs 116 = .ok (.iconst 1, 1) := by decide +kernel
theorem dL_hangs_117 : decode cL_hangs 117 = .ok (.goto 4, 3) := by decide +kernel
theorem dL_hangs_120 : decode cL_hangs 120 = .ok (.iconst 0, 1) := by decide +kernel
theorem dL_hangs_121 : decode cL_hangs 121 = .ok (.istore 5, 2) := by decide +kernel
theorem dL_hangs_123 : decode cL_hangs 123 = .ok (.iinc 6 1, 3) := by decide +kernel
theorem dL_hangs_126 : decode cL_hangs 126 = .ok (.goto (-45), 3) := by decide +kernel
theorem dL_hangs_129 : decode cL_hangs 129 = .ok (.aload_n 0, 1) := by decide +kernel
theorem dL_hangs_130 : decode cL_hangs 130 = .ok (.iload_n 2, 1) := by decide +kernel
theorem dL_hangs_131 : decode cL_hangs 131 = .ok (.iload 4, 2) := by decide +kernel
theorem dL_hangs_133 : decode cL_hangs 133 = .ok (.invokestatic 70, 3) := by decide +kernel
theorem dL_hangs_136 : decode cL_hangs 136 = .ok (.iconst 1, 1) := by decide +kernel
theorem dL_hangs_137 : decode cL_hangs 137 = .ok (.if_icmp .ne 7, 3) := by decide +kernel
theorem dL_hangs_140 : decode cL_hangs 140 = .ok (.iconst 1, 1) := by decide +kernel
theorem dL_hangs_141 : decode cL_hangs 141 = .ok (.goto 4, 3) := by decide +kernel
theorem dL_hangs_144 : decode cL_hangs 144 = .ok (.iconst 0, 1) := by decide +kernel
theorem dL_hangs_145 : decode cL_hangs 145 = .ok (.iload 5, 2) := by decide +kernel
theorem dL_hangs_147 : decode cL_hangs 147 = .ok (.if_icmp .ne 18, 3) := by decide +kernel
theorem dL_hangs_150 : decode cL_hangs 150 = .ok (.iload_n 2, 1) := by decide +kernel
theorem dL_hangs_151 : decode cL_hangs 151 = .ok (.iload 4, 2) := by decide +kernel
theorem dL_hangs_153 : decode cL_hangs 153 = .ok (.if_icmp .ne 8, 3) := by decide +kernel
theorem dL_hangs_156 : decode cL_hangs 156 = .ok (.iload 5, 2) := by decide +kernel
theorem dL_hangs_158 : decode cL_hangs 158 = .ok (.ifCond .ne 7, 3) := by decide +kernel
theorem dL_hangs_161 : decode cL_hangs 161 = .ok (.iconst 1, 1) := by decide +kernel
theorem dL_hangs_162 : decode cL_hangs 162 = .ok (.goto 4, 3) := by decide +kernel
theorem dL_hangs_165 : decode cL_hangs 165 = .ok (.iconst 0, 1) := by decide +kernel
theorem dL_hangs_166 : decode cL_hangs 166 = .ok (.istore_n 1, 1) := by decide +kernel
theorem dL_hangs_167 : decode cL_hangs 167 = .ok (.iinc 4 1, 3) := by decide +kernel
theorem dL_hangs_170 : decode cL_hangs 170 = .ok (.goto (-151), 3) := by decide +kernel
theorem dL_hangs_173 : decode cL_hangs 173 = .ok (.iload_n 1, 1) := by decide +kernel
theorem dL_hangs_174 : decode cL_hangs 174 = .ok (.ifCond .eq 16, 3) := by decide +kernel
theorem dL_hangs_177 : decode cL_hangs 177 = .ok (.aload_n 0, 1) := by decide +kernel
theorem dL_hangs_178 : decode cL_hangs 178 = .ok (.iload_n 2, 1) := by decide +kernel
theorem dL_hangs_179 : decode cL_hangs 179 = .ok (.invokestatic 67, 3) := by decide +kernel
theorem dL_hangs_182 : decode cL_hangs 182 = .ok (.iload_n 3, 1) := by decide +kernel
theorem dL_hangs_183 : decode cL_hangs 183 = .ok (.if_icmp .ne 7, 3) := by decide +kernel
theorem dL_hangs_186 : decode cL_hangs 186 = .ok (.iconst 1, 1) := by decide +kernel
theorem dL_hangs_187 : decode cL_hangs 187 = .ok (.goto 4, 3) := by decide +kernel
theorem dL_hangs_190 : decode cL_hangs 190 = .ok (.iconst 0, 1) := by decide +kernel
theorem dL_hangs_191 : decode cL_hangs 191 = .ok (.istore_n 1, 1) := by decide +kernel
theorem dL_hangs_192 : decode cL_hangs 192 = .ok (.iinc 2 1, 3) := by decide +kernel
theorem dL_hangs_195 : decode cL_hangs 195 = .ok (.goto (-191), 3) := by decide +kernel
theorem dL_hangs_198 : decode cL_hangs 198 = .ok (.iload_n 1, 1) := by decide +kernel
theorem dL_hangs_199 : decode cL_hangs 199 = .ok (.ireturn, 1) := by decide +kernel
theorem dL_size_0 : decode cL_size 0 = .ok (.iconst 0, 1) := by decide +kernel
theorem dL_size_1 : decode cL_size 1 = .ok (.istore_n 1, 1) := by decide +kernel
theorem dL_size_2 : decode cL_size 2 = .ok (.iconst 0, 1) := by decide +kernel
theorem dL_size_3 : decode cL_size 3 = .ok (.istore_n 2, 1) := by decide +kernel
theorem dL_size_4 : decode cL_size 4 = .ok (.iload_n 2, 1) := by decide +kernel
theorem dL_size_5 : decode cL_size 5 = .ok (.bipush 14, 2) := by decide +kernel
theorem dL_size_7 : decode cL_size 7 = .ok (.if_icmp .ge 17, 3) := by decide +kernel
theorem dL_size_10 : decode cL_size 10 = .ok (.iload_n 1, 1) := by decide +kernel
theorem dL_size_11 : decode cL_size 11 = .ok (.iload_n 0, 1) := by decide +kernel
theorem dL_size_12 : decode cL_size 12 = .ok (.iload_n 2, 1) := by decide +kernel
theorem dL_size_13 : decode cL_size 13 = .ok (.ishr, 1) := by decide +kernel
theorem dL_size_14 : decode cL_size 14 = .ok (.iconst 1, 1) := by decide +kernel
theorem dL_size_15 : decode cL_size 15 = .ok (.iand, 1) := by decide +kernel
theorem dL_size_16 : decode cL_size 16 = .ok (.iadd, 1) := by decide +kernel
theorem dL_size_17 : decode cL_size 17 = .ok (.istore_n 1, 1) := by decide +kernel
theorem dL_size_18 : decode cL_size 18 = .ok (.iinc 2 1, 3) := by decide +kernel
theorem dL_size_21 : decode cL_size 21 = .ok (.goto (-17), 3) := by decide +kernel
theorem dL_size_24 : decode cL_size 24 = .ok (.iload_n 1, 1) := by decide +kernel
theorem dL_size_25 : decode cL_size 25 = .ok (.ireturn, 1) := by decide +kernel
theorem dL_all_0 : decode cL_all 0 = .ok (.iconst 0, 1) := by decide +kernel
theorem dL_all_1 : decode cL_all 1 = .ok (.istore_n 2, 1) := by decide +kernel
theorem dL_all_2 : decode cL_all 2 = .ok (.iconst 0, 1) := by decide +kernel
theorem dL_all_3 : decode cL_all 3 = .ok (.istore_n 3, 1) := by decide +kernel
theorem dL_all_4 : decode cL_all 4 = .ok (.iload_n 3, 1) := by decide +kernel
theorem dL_all_5 : decode cL_all 5 = .ok (.bipush 14, 2) := by decide +kernel
theorem dL_all_7 : decode cL_all 7 = .ok (.if_icmp .ge 28, 3) := by decide +kernel
theorem dL_all_10 : decode cL_all 10 = .ok (.iload_n 2, 1) := by decide +kernel
theorem dL_all_11 : decode cL_all 11 = .ok (.iload_n 1, 1) := by decide +kernel
theorem dL_all_12 : decode cL_all 12 = .ok (.iload_n 3, 1) := by decide +kernel
theorem dL_all_13 : decode cL_all 13 = .ok (.ishr, 1) := by decide +kernel
theorem dL_all_14 : decode cL_all 14 = .ok (.iconst 1, 1) := by decide +kernel
theorem dL_all_15 : decode cL_all 15 = .ok (.iand, 1) := by decide +kernel
theorem dL_all_16 : decode cL_all 16 = .ok (.iconst 1, 1) := by decide +kernel
theorem dL_all_17 : decode cL_all 17 = .ok (.if_icmp .ne 9, 3) := by decide +kernel
theorem dL_all_20 : decode cL_all 20 = .ok (.aload_n 0, 1) := by decide +kernel
theorem dL_all_21 : decode cL_all 21 = .ok (.iload_n 3, 1) := by decide +kernel
theorem dL_all_22 : decode cL_all 22 = .ok (.iaload, 1) := by decide +kernel
theorem dL_all_23 : decode cL_all 23 = .ok (.goto 4, 3) := by decide +kernel
theorem dL_all_26 : decode cL_all 26 = .ok (.iconst 0, 1) := by decide +kernel
theorem dL_all_27 : decode cL_all 27 = .ok (.ior, 1) := by decide +kernel
theorem dL_all_28 : decode cL_all 28 = .ok (.istore_n 2, 1) := by decide +kernel
theorem dL_all_29 : decode cL_all 29 = .ok (.iinc 3 1, 3) := by decide +kernel
theorem dL_all_32 : decode cL_all 32 = .ok (.goto (-28), 3) := by decide +kernel
theorem dL_all_35 : decode cL_all 35 = .ok (.iload_n 2, 1) := by decide +kernel
theorem dL_all_36 : decode cL_all 36 = .ok (.ireturn, 1) := by decide +kernel
theorem dL_isBest_0 : decode cL_isBest 0 = .ok (.iload_n 3, 1) := by decide +kernel
theorem dL_isBest_1 : decode cL_isBest 1 = .ok (.iload_n 1, 1) := by decide +kernel
theorem dL_isBest_2 : decode cL_isBest 2 = .ok (.iconst (-1), 1) := by decide +kernel
theorem dL_isBest_3 : decode cL_isBest 3 = .ok (.ixor, 1) := by decide +kernel
theorem dL_isBest_4 : decode cL_isBest 4 = .ok (.iand, 1) := by decide +kernel
theorem dL_isBest_5 : decode cL_isBest 5 = .ok (.ifCond .ne 18, 3) := by decide +kernel
theorem dL_isBest_8 : decode cL_isBest 8 = .ok (.aload_n 0, 1) := by decide +kernel
theorem dL_isBest_9 : decode cL_isBest 9 = .ok (.iload_n 3, 1) := by decide +kernel
theorem dL_isBest_10 : decode cL_isBest 10 = .ok (.invokestatic 73, 3) := by decide +kernel
theorem dL_isBest_13 : decode cL_isBest 13 = .ok (.iload_n 2, 1) := by decide +kernel
theorem dL_isBest_14 : decode cL_isBest 14 = .ok (.iand, 1) := by decide +kernel
theorem dL_isBest_15 : decode cL_isBest 15 = .ok (.iload_n 2, 1) := by decide +kernel
theorem dL_isBest_16 : decode cL_isBest 16 = .ok (.if_icmp .ne 7, 3) := by decide +kernel
theorem dL_isBest_19 : decode cL_isBest 19 = .ok (.iconst 1, 1) := by decide +kernel
theorem dL_isBest_20 : decode cL_isBest 20 = .ok (.goto 4, 3) := by decide +kernel
theorem dL_isBest_23 : decode cL_isBest 23 = .ok (.iconst 0, 1) := by decide +kernel
theorem dL_isBest_24 : decode cL_isBest 24 = .ok (.istore 4, 2) := by decide +kernel
theorem dL_isBest_26 : decode cL_isBest 26 = .ok (.iconst 0, 1) := by decide +kernel
theorem dL_isBest_27 : decode cL_isBest 27 = .ok (.istore 5, 2) := by decide +kernel
theorem dL_isBest_29 : decode cL_isBest 29 = .ok (.iload 5, 2) := by decide +kernel
theorem dL_isBest_31 : decode cL_isBest 31 = .ok (.sipush 16384, 3) := by decide +kernel
theorem dL_isBest_34 : decode cL_isBest 34 = .ok (.if_icmp .ge 156, 3) := by decide +kernel
theorem dL_isBest_37 : decode cL_isBest 37 = .ok (.iload 4, 2) := by decide +kernel
theorem dL_isBest_39 : decode cL_isBest 39 = .ok (.ifCond .eq 151, 3) := by decide +kernel
theorem dL_isBest_42 : decode cL_isBest 42 = .ok (.iload 5, 2) := by decide +kernel
theorem dL_isBest_44 : decode cL_isBest 44 = .ok (.iload_n 1, 1) := by decide +kernel
theorem dL_isBest_45 : decode cL_isBest 45 = .ok (.iconst (-1), 1) := by decide +kernel
theorem dL_isBest_46 : decode cL_isBest 46 = .ok (.ixor, 1) := by decide +kernel
theorem dL_isBest_47 : decode cL_isBest 47 = .ok (.iand, 1) := by decide +kernel
theorem dL_isBest_48 : decode cL_isBest 48 = .ok (.ifCond .ne 136, 3) := by decide +kernel
theorem dL_isBest_51 : decode cL_isBest 51 = .ok (.iload 5, 2) := by decide +kernel
theorem dL_isBest_53 : decode cL_isBest 53 = .ok (.invokestatic 77, 3) := by decide +kernel
theorem dL_isBest_56 : decode cL_isBest 56 = .ok (.iload_n 3, 1) := by decide +kernel
theorem dL_isBest_57 : decode cL_isBest 57 = .ok (.invokestatic 77, 3) := by decide +kernel
theorem dL_isBest_60 : decode cL_isBest 60 = .ok (.if_icmp .gt 124, 3) := by decide +kernel
theorem dL_isBest_63 : decode cL_isBest 63 = .ok (.aload_n 0, 1) := by decide +kernel
theorem dL_isBest_64 : decode cL_isBest 64 = .ok (.iload 5, 2) := by decide +kernel
theorem dL_isBest_66 : decode cL_isBest 66 = .ok (.invokestatic 73, 3) := by decide +kernel
theorem dL_isBest_69 : decode cL_isBest 69 = .ok (.iload_n 2, 1) := by decide +kernel
theorem dL_isBest_70 : decode cL_isBest 70 = .ok (.iand, 1) := by decide +kernel
theorem dL_isBest_71 : decode cL_isBest 71 = .ok (.iload_n 2, 1) := by decide +kernel
theorem dL_isBest_72 : decode cL_isBest 72 = .ok (.if_icmp .ne 112, 3) := by decide +kernel
theorem dL_isBest_75 : decode cL_isBest 75 = .ok (.iload 5, 2) := by decide +kernel
theorem dL_isBest_77 : decode cL_isBest 77 = .ok (.iload_n 2, 1) := by decide +kernel
theorem dL_isBest_78 : decode cL_isBest 78 = .ok (.iand, 1) := by decide +kernel
theorem dL_isBest_79 : decode cL_isBest 79 = .ok (.invokestatic 77, 3) := by decide +kernel
theorem dL_isBest_82 : decode cL_isBest 82 = .ok (.istore 6, 2) := by decide +kernel
theorem dL_isBest_84 : decode cL_isBest 84 = .ok (.iload_n 3, 1) := by decide +kernel
theorem dL_isBest_85 : decode cL_isBest 85 = .ok (.iload_n 2, 1) := by decide +kernel
theorem dL_isBest_86 : decode cL_isBest 86 = .ok (.iand, 1) := by decide +kernel
theorem dL_isBest_87 : decode cL_isBest 87 = .ok (.invokestatic 77, 3) := by decide +kernel
theorem dL_isBest_90 : decode cL_isBest 90 = .ok (.istore 7, 2) := by decide +kernel
theorem dL_isBest_92 : decode cL_isBest 92 = .ok (.iconst 0, 1) := by decide +kernel
theorem dL_isBest_93 : decode cL_isBest 93 = .ok (.istore 8, 2) := by decide +kernel
theorem dL_isBest_95 : decode cL_isBest 95 = .ok (.bipush 13, 2) := by decide +kernel
theorem dL_isBest_97 : decode cL_isBest 97 = .ok (.istore 9, 2) := by decide +kernel
theorem dL_isBest_99 : decode cL_isBest 99 = .ok (.iload 9, 2) := by decide +kernel
theorem dL_isBest_101 : decode cL_isBest 101 = .ok (.ifCond .lt 34, 3) := by decide +kernel
theorem dL_isBest_104 : decode cL_isBest 104 = .ok (.iload 5, 2) := by decide +kernel
theorem dL_isBest_106 : decode cL_isBest 106 = .ok (.iload 9, 2) := by decide +kernel
theorem dL_isBest_108 : decode cL_isBest 108 = .ok (.ishr, 1) := by decide +kernel
theorem dL_isBest_109 : decode cL_isBest 109 = .ok (.iconst 1, 1) := by decide +kernel
theorem dL_isBest_110 : decode cL_isBest 110 = .ok (.iand, 1) := by decide +kernel
theorem dL_isBest_111 : decode cL_isBest 111 = .ok (.iload_n 3, 1) := by decide +kernel
theorem dL_isBest_112 : decode cL_isBest 112 = .ok (.iload 9, 2) := by decide +kernel
theorem dL_isBest_114 : decode cL_isBest 114 = .ok (.ishr, 1) := by decide +kernel
theorem dL_isBest_115 : decode cL_isBest 115 = .ok (.iconst 1, 1) := by decide +kernel
theorem dL_isBest_116 : decode cL_isBest 116 = .ok (.iand, 1) := by decide +kernel
theorem dL_isBest_117 : decode cL_isBest 117 = .ok (.if_icmp .eq 8, 3) := by decide +kernel
theorem dL_isBest_120 : decode cL_isBest 120 = .ok (.iload 9, 2) := by decide +kernel
theorem dL_isBest_122 : decode cL_isBest 122 = .ok (.goto 5, 3) := by decide +kernel
theorem dL_isBest_125 : decode cL_isBest 125 = .ok (.iload 8, 2) := by decide +kernel
theorem dL_isBest_127 : decode cL_isBest 127 = .ok (.istore 8, 2) := by decide +kernel
theorem dL_isBest_129 : decode cL_isBest 129 = .ok (.iinc 9 (-1), 3) := by decide +kernel
theorem dL_isBest_132 : decode cL_isBest 132 = .ok (.goto (-33), 3) := by decide +kernel
theorem dL_isBest_135 : decode cL_isBest 135 = .ok (.iload 5, 2) := by decide +kernel
theorem dL_isBest_137 : decode cL_isBest 137 = .ok (.invokestatic 77, 3) := by decide +kernel
theorem dL_isBest_140 : decode cL_isBest 140 = .ok (.iload_n 3, 1) := by decide +kernel
theorem dL_isBest_141 : decode cL_isBest 141 = .ok (.invokestatic 77, 3) := by decide +kernel
theorem dL_isBest_144 : decode cL_isBest 144 = .ok (.if_icmp .ne 37, 3) := by decide +kernel
theorem dL_isBest_147 : decode cL_isBest 147 = .ok (.iload 6, 2) := by decide +kernel
theorem dL_isBest_149 : decode cL_isBest 149 = .ok (.iload 7, 2) := by decide +kernel
theorem dL_isBest_151 : decode cL_isBest 151 = .ok (.if_icmp .lt 26, 3) := by decide +kernel
theorem dL_isBest_154 : decode cL_isBest 154 = .ok (.iload 6, 2) := by decide +kernel
theorem dL_isBest_156 : decode cL_isBest 156 = .ok (.iload 7, 2) := by decide +kernel
theorem dL_isBest_158 : decode cL_isBest 158 = .ok (.if_icmp .ne 23, 3) := by decide +kernel
theorem dL_isBest_161 : decode cL_isBest 161 = .ok (.iload 5, 2) := by decide +kernel
theorem dL_isBest_163 : decode cL_isBest 163 = .ok (.iload_n 3, 1) := by decide +kernel
theorem dL_isBest_164 : decode cL_isBest 164 = .ok (.if_icmp .eq 13, 3) := by decide +kernel
theorem dL_isBest_167 : decode cL_isBest 167 = .ok (.iload_n 3, 1) := by decide +kernel
theorem dL_isBest_168 : decode cL_isBest 168 = .ok (.iload 8, 2) := by decide +kernel
theorem dL_isBest_170 : decode cL_isBest 170 = .ok (.ishr, 1) := by decide +kernel
theorem dL_isBest_171 : decode cL_isBest 171 = .ok (.iconst 1, 1) := by decide +kernel
theorem dL_isBest_172 : decode cL_isBest 172 = .ok (.iand, 1) := by decide +kernel
theorem dL_isBest_173 : decode cL_isBest 173 = .ok (.iconst 1, 1) := by decide +kernel
theorem dL_isBest_174 : decode cL_isBest 174 = .ok (.if_icmp .ne 7, 3) := by decide +kernel
theorem dL_isBest_177 : decode cL_isBest 177 = .ok (.iconst 1, 1) := by decide +kernel
theorem dL_isBest_178 : decode cL_isBest 178 = .ok (.goto 4, 3) := by decide +kernel
theorem dL_isBest_181 : decode cL_isBest 181 = .ok (.iconst 0, 1) := by decide +kernel
theorem dL_isBest_182 : decode cL_isBest 182 = .ok (.istore 4, 2) := by decide +kernel
theorem dL_isBest_184 : decode cL_isBest 184 = .ok (.iinc 5 1, 3) := by decide +kernel
theorem dL_isBest_187 : decode cL_isBest 187 = .ok (.goto (-158), 3) := by decide +kernel
theorem dL_isBest_190 : decode cL_isBest 190 = .ok (.iload 4, 2) := by decide +kernel
theorem dL_isBest_192 : decode cL_isBest 192 = .ok (.ireturn, 1) := by decide +kernel
theorem dL_causes_0 : decode cL_causes 0 = .ok (.bipush 14, 2) := by decide +kernel
theorem dL_causes_2 : decode cL_causes 2 = .ok (.newarray .int, 2) := by decide +kernel
theorem dL_causes_4 : decode cL_causes 4 = .ok (.astore_n 1, 1) := by decide +kernel
theorem dL_causes_5 : decode cL_causes 5 = .ok (.iconst 0, 1) := by decide +kernel
theorem dL_causes_6 : decode cL_causes 6 = .ok (.istore_n 2, 1) := by decide +kernel
theorem dL_causes_7 : decode cL_causes 7 = .ok (.iconst 0, 1) := by decide +kernel
theorem dL_causes_8 : decode cL_causes 8 = .ok (.istore_n 3, 1) := by decide +kernel
theorem dL_causes_9 : decode cL_causes 9 = .ok (.iconst 1, 1) := by decide +kernel
theorem dL_causes_10 : decode cL_causes 10 = .ok (.istore 4, 2) := by decide +kernel
theorem dL_causes_12 : decode cL_causes 12 = .ok (.iconst 0, 1) := by decide +kernel
theorem dL_causes_13 : decode cL_causes 13 = .ok (.istore 5, 2) := by decide +kernel
theorem dL_causes_15 : decode cL_causes 15 = .ok (.iload 5, 2) := by decide +kernel
theorem dL_causes_17 : decode cL_causes 17 = .ok (.bipush 14, 2) := by decide +kernel
theorem dL_causes_19 : decode cL_causes 19 = .ok (.if_icmp .ge 85, 3) := by decide +kernel
theorem dL_causes_22 : decode cL_causes 22 = .ok (.iload 4, 2) := by decide +kernel
theorem dL_causes_24 : decode cL_causes 24 = .ok (.ifCond .eq 80, 3) := by decide +kernel
theorem dL_causes_27 : decode cL_causes 27 = .ok (.iload_n 3, 1) := by decide +kernel
theorem dL_causes_28 : decode cL_causes 28 = .ok (.aload_n 0, 1) := by decide +kernel
theorem dL_causes_29 : decode cL_causes 29 = .ok (.iload 5, 2) := by decide +kernel
theorem dL_causes_31 : decode cL_causes 31 = .ok (.invokestatic 80, 3) := by decide +kernel
theorem dL_causes_34 : decode cL_causes 34 = .ok (.ifCond .le 10, 3) := by decide +kernel
theorem dL_causes_37 : decode cL_causes 37 = .ok (.iconst 1, 1) := by decide +kernel
theorem dL_causes_38 : decode cL_causes 38 = .ok (.iload 5, 2) := by decide +kernel
theorem dL_causes_40 : decode cL_causes 40 = .ok (.ishl, 1) := by decide +kernel
theorem dL_causes_41 : decode cL_causes 41 = .ok (.goto 4, 3) := by decide +kernel
theorem dL_causes_44 : decode cL_causes 44 = .ok (.iconst 0, 1) := by decide +kernel
theorem dL_causes_45 : decode cL_causes 45 = .ok (.ior, 1) := by decide +kernel
theorem dL_causes_46 : decode cL_causes 46 = .ok (.istore_n 3, 1) := by decide +kernel
theorem dL_causes_47 : decode cL_causes 47 = .ok (.aload_n 1, 1) := by decide +kernel
theorem dL_causes_48 : decode cL_causes 48 = .ok (.iload 5, 2) := by decide +kernel
theorem dL_causes_50 : decode cL_causes 50 = .ok (.iconst 1, 1) := by decide +kernel
theorem dL_causes_51 : decode cL_causes 51 = .ok (.iload 5, 2) := by decide +kernel
theorem dL_causes_53 : decode cL_causes 53 = .ok (.ishl, 1) := by decide +kernel
theorem dL_causes_54 : decode cL_causes 54 = .ok (.iastore, 1) := by decide +kernel
theorem dL_causes_55 : decode cL_causes 55 = .ok (.iconst 0, 1) := by decide +kernel
theorem dL_causes_56 : decode cL_causes 56 = .ok (.istore 6, 2) := by decide +kernel
theorem dL_causes_58 : decode cL_causes 58 = .ok (.iload 6, 2) := by decide +kernel
theorem dL_causes_60 : decode cL_causes 60 = .ok (.bipush 14, 2) := by decide +kernel
theorem dL_causes_62 : decode cL_causes 62 = .ok (.if_icmp .ge 36, 3) := by decide +kernel
theorem dL_causes_65 : decode cL_causes 65 = .ok (.aload_n 1, 1) := by decide +kernel
theorem dL_causes_66 : decode cL_causes 66 = .ok (.iload 5, 2) := by decide +kernel
theorem dL_causes_68 : decode cL_causes 68 = .ok (.dup2, 1) := by decide +kernel
theorem dL_causes_69 : decode cL_causes 69 = .ok (.iaload, 1) := by decide +kernel
theorem dL_causes_70 : decode cL_causes 70 = .ok (.aload_n 0, 1) := by decide +kernel
theorem dL_causes_71 : decode cL_causes 71 = .ok (.iload 6, 2) := by decide +kernel
theorem dL_causes_73 : decode cL_causes 73 = .ok (.iload 5, 2) := by decide +kernel
theorem dL_causes_75 : decode cL_causes 75 = .ok (.invokestatic 70, 3) := by decide +kernel
theorem dL_causes_78 : decode cL_causes 78 = .ok (.iconst 1, 1) := by decide +kernel
theorem dL_causes_79 : decode cL_causes 79 = .ok (.if_icmp .ne 10, 3) := by decide +kernel
theorem dL_causes_82 : decode cL_causes 82 = .ok (.iconst 1, 1) := by decide +kernel
theorem dL_causes_83 : decode cL_causes 83 = .ok (.iload 6, 2) := by decide +kernel
theorem dL_causes_85 : decode cL_causes 85 = .ok (.ishl, 1) := by decide +kernel
theorem dL_causes_86 : decode cL_causes 86 = .ok (.goto 4, 3) := by decide +kernel
theorem dL_causes_89 : decode cL_causes 89 = .ok (.iconst 0, 1) := by decide +kernel
theorem dL_causes_90 : decode cL_causes 90 = .ok (.ior, 1) := by decide +kernel
theorem dL_causes_91 : decode cL_causes 91 = .ok (.iastore, 1) := by decide +kernel
theorem dL_causes_92 : decode cL_causes 92 = .ok (.iinc 6 1, 3) := by decide +kernel
theorem dL_causes_95 : decode cL_causes 95 = .ok (.goto (-37), 3) := by decide +kernel
theorem dL_causes_98 : decode cL_causes 98 = .ok (.iinc 5 1, 3) := by decide +kernel
theorem dL_causes_101 : decode cL_causes 101 = .ok (.goto (-86), 3) := by decide +kernel
theorem dL_causes_104 : decode cL_causes 104 = .ok (.iconst 0, 1) := by decide +kernel
end
section
theorem dL_causes_105 : decode cL_causes 105 = .ok (.istore 5, 2) := by decide +kernel
theorem dL_causes_107 : decode cL_causes 107 = .ok (.iload 5, 2) := by decide +kernel
theorem dL_causes_109 : decode cL_causes 109 = .ok (.bipush 14, 2) := by decide +kernel
theorem dL_causes_111 : decode cL_causes 111 = .ok (.if_icmp .ge 132, 3) := by decide +kernel
theorem dL_causes_114 : decode cL_causes 114 = .ok (.iload 4, 2) := by decide +kernel
theorem dL_causes_116 : decode cL_causes 116 = .ok (.ifCond .eq 127, 3) := by decide +kernel
theorem dL_causes_119 : decode cL_causes 119 = .ok (.iconst 0, 1) := by decide +kernel
theorem dL_causes_120 : decode cL_causes 120 = .ok (.istore 6, 2) := by decide +kernel
theorem dL_causes_122 : decode cL_causes 122 = .ok (.iconst 0, 1) := by decide +kernel
theorem dL_causes_123 : decode cL_causes 123 = .ok (.istore 7, 2) := by decide +kernel
theorem dL_causes_125 : decode cL_causes 125 = .ok (.iload 7, 2) := by decide +kernel
theorem dL_causes_127 : decode cL_causes 127 = .ok (.bipush 14, 2) := by decide +kernel
theorem dL_causes_129 : decode cL_causes 129 = .ok (.if_icmp .ge 34, 3) := by decide +kernel
theorem dL_causes_132 : decode cL_causes 132 = .ok (.iload 6, 2) := by decide +kernel
theorem dL_causes_134 : decode cL_causes 134 = .ok (.aload_n 0, 1) := by decide +kernel
theorem dL_causes_135 : decode cL_causes 135 = .ok (.iload 7, 2) := by decide +kernel
theorem dL_causes_137 : decode cL_causes 137 = .ok (.iload 5, 2) := by decide +kernel
theorem dL_causes_139 : decode cL_causes 139 = .ok (.invokestatic 62, 3) := by decide +kernel
theorem dL_causes_142 : decode cL_causes 142 = .ok (.iconst 1, 1) := by decide +kernel
theorem dL_causes_143 : decode cL_causes 143 = .ok (.if_icmp .ne 10, 3) := by decide +kernel
theorem dL_causes_146 : decode cL_causes 146 = .ok (.iconst 1, 1) := by decide +kernel
theorem dL_causes_147 : decode cL_causes 147 = .ok (.iload 7, 2) := by decide +kernel
theorem dL_causes_149 : decode cL_causes 149 = .ok (.ishl, 1) := by decide +kernel
theorem dL_causes_150 : decode cL_causes 150 = .ok (.goto 4, 3) := by decide +kernel
theorem dL_causes_153 : decode cL_causes 153 = .ok (.iconst 0, 1) := by decide +kernel
theorem dL_causes_154 : decode cL_causes 154 = .ok (.ior, 1) := by decide +kernel
theorem dL_causes_155 : decode cL_causes 155 = .ok (.istore 6, 2) := by decide +kernel
theorem dL_causes_157 : decode cL_causes 157 = .ok (.iinc 7 1, 3) := by decide +kernel
theorem dL_causes_160 : decode cL_causes 160 = .ok (.goto (-35), 3) := by decide +kernel
theorem dL_causes_163 : decode cL_causes 163 = .ok (.iload_n 3, 1) := by decide +kernel
theorem dL_causes_164 : decode cL_causes 164 = .ok (.iload 5, 2) := by decide +kernel
theorem dL_causes_166 : decode cL_causes 166 = .ok (.ishr, 1) := by decide +kernel
theorem dL_causes_167 : decode cL_causes 167 = .ok (.iconst 1, 1) := by decide +kernel
theorem dL_causes_168 : decode cL_causes 168 = .ok (.iand, 1) := by decide +kernel
theorem dL_causes_169 : decode cL_causes 169 = .ok (.iconst 1, 1) := by decide +kernel
theorem dL_causes_170 : decode cL_causes 170 = .ok (.if_icmp .eq 17, 3) := by decide +kernel
theorem dL_causes_173 : decode cL_causes 173 = .ok (.iload 6, 2) := by decide +kernel
theorem dL_causes_175 : decode cL_causes 175 = .ok (.ifCond .le 16, 3) := by decide +kernel
theorem dL_causes_178 : decode cL_causes 178 = .ok (.iload 6, 2) := by decide +kernel
theorem dL_causes_180 : decode cL_causes 180 = .ok (.iload_n 3, 1) := by decide +kernel
theorem dL_causes_181 : decode cL_causes 181 = .ok (.iconst (-1), 1) := by decide +kernel
theorem dL_causes_182 : decode cL_causes 182 = .ok (.ixor, 1) := by decide +kernel
theorem dL_causes_183 : decode cL_causes 183 = .ok (.iand, 1) := by decide +kernel
theorem dL_causes_184 : decode cL_causes 184 = .ok (.ifCond .ne 7, 3) := by decide +kernel
theorem dL_causes_187 : decode cL_causes 187 = .ok (.iconst 1, 1) := by decide +kernel
theorem dL_causes_188 : decode cL_causes 188 = .ok (.goto 4, 3) := by decide +kernel
theorem dL_causes_191 : decode cL_causes 191 = .ok (.iconst 0, 1) := by decide +kernel
theorem dL_causes_192 : decode cL_causes 192 = .ok (.istore 7, 2) := by decide +kernel
theorem dL_causes_194 : decode cL_causes 194 = .ok (.iload_n 2, 1) := by decide +kernel
theorem dL_causes_195 : decode cL_causes 195 = .ok (.iload 7, 2) := by decide +kernel
theorem dL_causes_197 : decode cL_causes 197 = .ok (.ifCond .eq 10, 3) := by decide +kernel
theorem dL_causes_200 : decode cL_causes 200 = .ok (.iconst 1, 1) := by decide +kernel
theorem dL_causes_201 : decode cL_causes 201 = .ok (.iload 5, 2) := by decide +kernel
theorem dL_causes_203 : decode cL_causes 203 = .ok (.ishl, 1) := by decide +kernel
theorem dL_causes_204 : decode cL_causes 204 = .ok (.goto 4, 3) := by decide +kernel
theorem dL_causes_207 : decode cL_causes 207 = .ok (.iconst 0, 1) := by decide +kernel
theorem dL_causes_208 : decode cL_causes 208 = .ok (.ior, 1) := by decide +kernel
theorem dL_causes_209 : decode cL_causes 209 = .ok (.istore_n 2, 1) := by decide +kernel
theorem dL_causes_210 : decode cL_causes 210 = .ok (.aload_n 0, 1) := by decide +kernel
theorem dL_causes_211 : decode cL_causes 211 = .ok (.iload 5, 2) := by decide +kernel
theorem dL_causes_213 : decode cL_causes 213 = .ok (.invokestatic 83, 3) := by decide +kernel
theorem dL_causes_216 : decode cL_causes 216 = .ok (.iconst 1, 1) := by decide +kernel
theorem dL_causes_217 : decode cL_causes 217 = .ok (.if_icmp .ne 7, 3) := by decide +kernel
theorem dL_causes_220 : decode cL_causes 220 = .ok (.iconst 1, 1) := by decide +kernel
theorem dL_causes_221 : decode cL_causes 221 = .ok (.goto 4, 3) := by decide +kernel
theorem dL_causes_224 : decode cL_causes 224 = .ok (.iconst 0, 1) := by decide +kernel
theorem dL_causes_225 : decode cL_causes 225 = .ok (.iload 7, 2) := by decide +kernel
theorem dL_causes_227 : decode cL_causes 227 = .ok (.if_icmp .ne 7, 3) := by decide +kernel
theorem dL_causes_230 : decode cL_causes 230 = .ok (.iconst 1, 1) := by decide +kernel
theorem dL_causes_231 : decode cL_causes 231 = .ok (.goto 4, 3) := by decide +kernel
theorem dL_causes_234 : decode cL_causes 234 = .ok (.iconst 0, 1) := by decide +kernel
theorem dL_causes_235 : decode cL_causes 235 = .ok (.istore 4, 2) := by decide +kernel
theorem dL_causes_237 : decode cL_causes 237 = .ok (.iinc 5 1, 3) := by decide +kernel
theorem dL_causes_240 : decode cL_causes 240 = .ok (.goto (-133), 3) := by decide +kernel
theorem dL_causes_243 : decode cL_causes 243 = .ok (.iconst 0, 1) := by decide +kernel
theorem dL_causes_244 : decode cL_causes 244 = .ok (.istore 5, 2) := by decide +kernel
theorem dL_causes_246 : decode cL_causes 246 = .ok (.iconst (-1), 1) := by decide +kernel
theorem dL_causes_247 : decode cL_causes 247 = .ok (.istore 6, 2) := by decide +kernel
theorem dL_causes_249 : decode cL_causes 249 = .ok (.iconst 0, 1) := by decide +kernel
theorem dL_causes_250 : decode cL_causes 250 = .ok (.istore 7, 2) := by decide +kernel
theorem dL_causes_252 : decode cL_causes 252 = .ok (.iload 7, 2) := by decide +kernel
theorem dL_causes_254 : decode cL_causes 254 = .ok (.aload_n 0, 1) := by decide +kernel
theorem dL_causes_255 : decode cL_causes 255 = .ok (.invokevirtual 86, 3) := by decide +kernel
theorem dL_causes_258 : decode cL_causes 258 = .ok (.if_icmp .ge 67, 3) := by decide +kernel
theorem dL_causes_261 : decode cL_causes 261 = .ok (.iload 4, 2) := by decide +kernel
theorem dL_causes_263 : decode cL_causes 263 = .ok (.ifCond .eq 62, 3) := by decide +kernel
theorem dL_causes_266 : decode cL_causes 266 = .ok (.aload_n 0, 1) := by decide +kernel
theorem dL_causes_267 : decode cL_causes 267 = .ok (.iload 7, 2) := by decide +kernel
theorem dL_causes_269 : decode cL_causes 269 = .ok (.invokestatic 90, 3) := by decide +kernel
theorem dL_causes_272 : decode cL_causes 272 = .ok (.istore 8, 2) := by decide +kernel
theorem dL_causes_274 : decode cL_causes 274 = .ok (.iload 8, 2) := by decide +kernel
theorem dL_causes_276 : decode cL_causes 276 = .ok (.iload 6, 2) := by decide +kernel
theorem dL_causes_278 : decode cL_causes 278 = .ok (.if_icmp .le 25, 3) := by decide +kernel
theorem dL_causes_281 : decode cL_causes 281 = .ok (.iload 8, 2) := by decide +kernel
theorem dL_causes_283 : decode cL_causes 283 = .ok (.bipush 14, 2) := by decide +kernel
theorem dL_causes_285 : decode cL_causes 285 = .ok (.if_icmp .ge 18, 3) := by decide +kernel
theorem dL_causes_288 : decode cL_causes 288 = .ok (.aload_n 0, 1) := by decide +kernel
theorem dL_causes_289 : decode cL_causes 289 = .ok (.iload 7, 2) := by decide +kernel
theorem dL_causes_291 : decode cL_causes 291 = .ok (.invokestatic 92, 3) := by decide +kernel
theorem dL_causes_294 : decode cL_causes 294 = .ok (.iload 8, 2) := by decide +kernel
theorem dL_causes_296 : decode cL_causes 296 = .ok (.if_icmp .ne 7, 3) := by decide +kernel
theorem dL_causes_299 : decode cL_causes 299 = .ok (.iconst 1, 1) := by decide +kernel
theorem dL_causes_300 : decode cL_causes 300 = .ok (.goto 4, 3) := by decide +kernel
theorem dL_causes_303 : decode cL_causes 303 = .ok (.iconst 0, 1) := by decide +kernel
theorem dL_causes_304 : decode cL_causes 304 = .ok (.istore 4, 2) := by decide +kernel
theorem dL_causes_306 : decode cL_causes 306 = .ok (.iload 8, 2) := by decide +kernel
theorem dL_causes_308 : decode cL_causes 308 = .ok (.istore 6, 2) := by decide +kernel
theorem dL_causes_310 : decode cL_causes 310 = .ok (.iload 5, 2) := by decide +kernel
theorem dL_causes_312 : decode cL_causes 312 = .ok (.iconst 1, 1) := by decide +kernel
theorem dL_causes_313 : decode cL_causes 313 = .ok (.iload 8, 2) := by decide +kernel
theorem dL_causes_315 : decode cL_causes 315 = .ok (.ishl, 1) := by decide +kernel
theorem dL_causes_316 : decode cL_causes 316 = .ok (.ior, 1) := by decide +kernel
theorem dL_causes_317 : decode cL_causes 317 = .ok (.istore 5, 2) := by decide +kernel
theorem dL_causes_319 : decode cL_causes 319 = .ok (.iinc 7 1, 3) := by decide +kernel
theorem dL_causes_322 : decode cL_causes 322 = .ok (.goto (-70), 3) := by decide +kernel
theorem dL_causes_325 : decode cL_causes 325 = .ok (.iload 4, 2) := by decide +kernel
theorem dL_causes_327 : decode cL_causes 327 = .ok (.ifCond .eq 54, 3) := by decide +kernel
theorem dL_causes_330 : decode cL_causes 330 = .ok (.aload_n 0, 1) := by decide +kernel
theorem dL_causes_331 : decode cL_causes 331 = .ok (.aload_n 0, 1) := by decide +kernel
theorem dL_causes_332 : decode cL_causes 332 = .ok (.invokevirtual 86, 3) := by decide +kernel
theorem dL_causes_335 : decode cL_causes 335 = .ok (.invokestatic 90, 3) := by decide +kernel
theorem dL_causes_338 : decode cL_causes 338 = .ok (.bipush (-101), 2) := by decide +kernel
theorem dL_causes_340 : decode cL_causes 340 = .ok (.if_icmp .ne 41, 3) := by decide +kernel
theorem dL_causes_343 : decode cL_causes 343 = .ok (.aload_n 0, 1) := by decide +kernel
theorem dL_causes_344 : decode cL_causes 344 = .ok (.aload_n 0, 1) := by decide +kernel
theorem dL_causes_345 : decode cL_causes 345 = .ok (.invokevirtual 86, 3) := by decide +kernel
theorem dL_causes_348 : decode cL_causes 348 = .ok (.invokestatic 92, 3) := by decide +kernel
theorem dL_causes_351 : decode cL_causes 351 = .ok (.bipush (-101), 2) := by decide +kernel
theorem dL_causes_353 : decode cL_causes 353 = .ok (.if_icmp .ne 28, 3) := by decide +kernel
theorem dL_causes_356 : decode cL_causes 356 = .ok (.aload_n 0, 1) := by decide +kernel
theorem dL_causes_357 : decode cL_causes 357 = .ok (.iconst (-1), 1) := by decide +kernel
theorem dL_causes_358 : decode cL_causes 358 = .ok (.invokestatic 90, 3) := by decide +kernel
theorem dL_causes_361 : decode cL_causes 361 = .ok (.bipush (-101), 2) := by decide +kernel
theorem dL_causes_363 : decode cL_causes 363 = .ok (.if_icmp .ne 18, 3) := by decide +kernel
theorem dL_causes_366 : decode cL_causes 366 = .ok (.aload_n 1, 1) := by decide +kernel
theorem dL_causes_367 : decode cL_causes 367 = .ok (.iload_n 2, 1) := by decide +kernel
theorem dL_causes_368 : decode cL_causes 368 = .ok (.iload_n 3, 1) := by decide +kernel
theorem dL_causes_369 : decode cL_causes 369 = .ok (.iload 5, 2) := by decide +kernel
theorem dL_causes_371 : decode cL_causes 371 = .ok (.invokestatic 95, 3) := by decide +kernel
theorem dL_causes_374 : decode cL_causes 374 = .ok (.ifCond .eq 7, 3) := by decide +kernel
theorem dL_causes_377 : decode cL_causes 377 = .ok (.iconst 1, 1) := by decide +kernel
theorem dL_causes_378 : decode cL_causes 378 = .ok (.goto 4, 3) := by decide +kernel
theorem dL_causes_381 : decode cL_causes 381 = .ok (.iconst 0, 1) := by decide +kernel
theorem dL_causes_382 : decode cL_causes 382 = .ok (.istore 4, 2) := by decide +kernel
theorem dL_causes_384 : decode cL_causes 384 = .ok (.iload_n 3, 1) := by decide +kernel
theorem dL_causes_385 : decode cL_causes 385 = .ok (.istore 7, 2) := by decide +kernel
theorem dL_causes_387 : decode cL_causes 387 = .ok (.aload_n 0, 1) := by decide +kernel
theorem dL_causes_388 : decode cL_causes 388 = .ok (.invokevirtual 99, 3) := by decide +kernel
theorem dL_causes_391 : decode cL_causes 391 = .ok (.istore 8, 2) := by decide +kernel
theorem dL_causes_393 : decode cL_causes 393 = .ok (.iconst 0, 1) := by decide +kernel
theorem dL_causes_394 : decode cL_causes 394 = .ok (.istore 9, 2) := by decide +kernel
theorem dL_causes_396 : decode cL_causes 396 = .ok (.iload 9, 2) := by decide +kernel
theorem dL_causes_398 : decode cL_causes 398 = .ok (.iload 8, 2) := by decide +kernel
theorem dL_causes_400 : decode cL_causes 400 = .ok (.if_icmp .ge 213, 3) := by decide +kernel
theorem dL_causes_403 : decode cL_causes 403 = .ok (.iload 4, 2) := by decide +kernel
theorem dL_causes_405 : decode cL_causes 405 = .ok (.ifCond .eq 208, 3) := by decide +kernel
theorem dL_causes_408 : decode cL_causes 408 = .ok (.aload_n 0, 1) := by decide +kernel
theorem dL_causes_409 : decode cL_causes 409 = .ok (.iload 9, 2) := by decide +kernel
theorem dL_causes_411 : decode cL_causes 411 = .ok (.invokestatic 102, 3) := by decide +kernel
theorem dL_causes_414 : decode cL_causes 414 = .ok (.istore 10, 2) := by decide +kernel
theorem dL_causes_416 : decode cL_causes 416 = .ok (.iload 10, 2) := by decide +kernel
theorem dL_causes_418 : decode cL_causes 418 = .ok (.ifCond .lt 27, 3) := by decide +kernel
theorem dL_causes_421 : decode cL_causes 421 = .ok (.iload_n 2, 1) := by decide +kernel
theorem dL_causes_422 : decode cL_causes 422 = .ok (.iload 10, 2) := by decide +kernel
theorem dL_causes_424 : decode cL_causes 424 = .ok (.ishr, 1) := by decide +kernel
theorem dL_causes_425 : decode cL_causes 425 = .ok (.iconst 1, 1) := by decide +kernel
theorem dL_causes_426 : decode cL_causes 426 = .ok (.iand, 1) := by decide +kernel
theorem dL_causes_427 : decode cL_causes 427 = .ok (.iconst 1, 1) := by decide +kernel
theorem dL_causes_428 : decode cL_causes 428 = .ok (.if_icmp .ne 17, 3) := by decide +kernel
theorem dL_causes_431 : decode cL_causes 431 = .ok (.aload_n 1, 1) := by decide +kernel
theorem dL_causes_432 : decode cL_causes 432 = .ok (.iload 10, 2) := by decide +kernel
theorem dL_causes_434 : decode cL_causes 434 = .ok (.iaload, 1) := by decide +kernel
theorem dL_causes_435 : decode cL_causes 435 = .ok (.iload 7, 2) := by decide +kernel
theorem dL_causes_437 : decode cL_causes 437 = .ok (.iand, 1) := by decide +kernel
theorem dL_causes_438 : decode cL_causes 438 = .ok (.ifCond .eq 7, 3) := by decide +kernel
theorem dL_causes_441 : decode cL_causes 441 = .ok (.iconst 1, 1) := by decide +kernel
theorem dL_causes_442 : decode cL_causes 442 = .ok (.goto 4, 3) := by decide +kernel
theorem dL_causes_445 : decode cL_causes 445 = .ok (.iconst 0, 1) := by decide +kernel
theorem dL_causes_446 : decode cL_causes 446 = .ok (.istore 4, 2) := by decide +kernel
theorem dL_causes_448 : decode cL_causes 448 = .ok (.iconst 0, 1) := by decide +kernel
theorem dL_causes_449 : decode cL_causes 449 = .ok (.istore 11, 2) := by decide +kernel
theorem dL_causes_451 : decode cL_causes 451 = .ok (.iload 11, 2) := by decide +kernel
theorem dL_causes_453 : decode cL_causes 453 = .ok (.bipush 14, 2) := by decide +kernel
theorem dL_causes_455 : decode cL_causes 455 = .ok (.if_icmp .ge 131, 3) := by decide +kernel
theorem dL_causes_458 : decode cL_causes 458 = .ok (.iload 4, 2) := by decide +kernel
theorem dL_causes_460 : decode cL_causes 460 = .ok (.ifCond .eq 126, 3) := by decide +kernel
theorem dL_causes_463 : decode cL_causes 463 = .ok (.iload_n 2, 1) := by decide +kernel
theorem dL_causes_464 : decode cL_causes 464 = .ok (.iload 11, 2) := by decide +kernel
theorem dL_causes_466 : decode cL_causes 466 = .ok (.ishr, 1) := by decide +kernel
theorem dL_causes_467 : decode cL_causes 467 = .ok (.iconst 1, 1) := by decide +kernel
theorem dL_causes_468 : decode cL_causes 468 = .ok (.iand, 1) := by decide +kernel
theorem dL_causes_469 : decode cL_causes 469 = .ok (.iconst 1, 1) := by decide +kernel
theorem dL_causes_470 : decode cL_causes 470 = .ok (.if_icmp .ne 16, 3) := by decide +kernel
theorem dL_causes_473 : decode cL_causes 473 = .ok (.aload_n 1, 1) := by decide +kernel
theorem dL_causes_474 : decode cL_causes 474 = .ok (.iload 11, 2) := by decide +kernel
theorem dL_causes_476 : decode cL_causes 476 = .ok (.iaload, 1) := by decide +kernel
theorem dL_causes_477 : decode cL_causes 477 = .ok (.iload 7, 2) := by decide +kernel
theorem dL_causes_479 : decode cL_causes 479 = .ok (.iand, 1) := by decide +kernel
theorem dL_causes_480 : decode cL_causes 480 = .ok (.invokestatic 77, 3) := by decide +kernel
theorem dL_causes_483 : decode cL_causes 483 = .ok (.goto 4, 3) := by decide +kernel
theorem dL_causes_486 : decode cL_causes 486 = .ok (.iconst 0, 1) := by decide +kernel
theorem dL_causes_487 : decode cL_causes 487 = .ok (.istore 12, 2) := by decide +kernel
theorem dL_causes_489 : decode cL_causes 489 = .ok (.aload_n 1, 1) := by decide +kernel
theorem dL_causes_490 : decode cL_causes 490 = .ok (.iload 10, 2) := by decide +kernel
theorem dL_causes_492 : decode cL_causes 492 = .ok (.iaload, 1) := by decide +kernel
theorem dL_causes_493 : decode cL_causes 493 = .ok (.iload 7, 2) := by decide +kernel
theorem dL_causes_495 : decode cL_causes 495 = .ok (.iand, 1) := by decide +kernel
theorem dL_causes_496 : decode cL_causes 496 = .ok (.invokestatic 77, 3) := by decide +kernel
theorem dL_causes_499 : decode cL_causes 499 = .ok (.istore 13, 2) := by decide +kernel
theorem dL_causes_501 : decode cL_causes 501 = .ok (.iload_n 3, 1) := by decide +kernel
theorem dL_causes_502 : decode cL_causes 502 = .ok (.iload 10, 2) := by decide +kernel
theorem dL_causes_504 : decode cL_causes 504 = .ok (.ishr, 1) := by decide +kernel
theorem dL_causes_505 : decode cL_causes 505 = .ok (.iconst 1, 1) := by decide +kernel
theorem dL_causes_506 : decode cL_causes 506 = .ok (.iand, 1) := by decide +kernel
theorem dL_causes_507 : decode cL_causes 507 = .ok (.iconst 1, 1) := by decide +kernel
theorem dL_causes_508 : decode cL_causes 508 = .ok (.if_icmp .ne 7, 3) := by decide +kernel
theorem dL_causes_511 : decode cL_causes 511 = .ok (.iconst 1, 1) := by decide +kernel
theorem dL_causes_512 : decode cL_causes 512 = .ok (.goto 4, 3) := by decide +kernel
theorem dL_causes_515 : decode cL_causes 515 = .ok (.iconst 0, 1) := by decide +kernel
theorem dL_causes_516 : decode cL_causes 516 = .ok (.istore 14, 2) := by decide +kernel
theorem dL_causes_518 : decode cL_causes 518 = .ok (.iload_n 3, 1) := by decide +kernel
theorem dL_causes_519 : decode cL_causes 519 = .ok (.iload 11, 2) := by decide +kernel
theorem dL_causes_521 : decode cL_causes 521 = .ok (.ishr, 1) := by decide +kernel
theorem dL_causes_522 : decode cL_causes 522 = .ok (.iconst 1, 1) := by decide +kernel
theorem dL_causes_523 : decode cL_causes 523 = .ok (.iand, 1) := by decide +kernel
theorem dL_causes_524 : decode cL_causes 524 = .ok (.iconst 1, 1) := by decide +kernel
theorem dL_causes_525 : decode cL_causes 525 = .ok (.if_icmp .ne 7, 3) := by decide +kernel
theorem dL_causes_528 : decode cL_causes 528 = .ok (.iconst 1, 1) := by decide +kernel
theorem dL_causes_529 : decode cL_causes 529 = .ok (.goto 4, 3) := by decide +kernel
theorem dL_causes_532 : decode cL_causes 532 = .ok (.iconst 0, 1) := by decide +kernel
theorem dL_causes_533 : decode cL_causes 533 = .ok (.istore 15, 2) := by decide +kernel
theorem dL_causes_535 : decode cL_causes 535 = .ok (.iload 12, 2) := by decide +kernel
theorem dL_causes_537 : decode cL_causes 537 = .ok (.iload 13, 2) := by decide +kernel
theorem dL_causes_539 : decode cL_causes 539 = .ok (.if_icmp .lt 34, 3) := by decide +kernel
theorem dL_causes_542 : decode cL_causes 542 = .ok (.iload 12, 2) := by decide +kernel
theorem dL_causes_544 : decode cL_causes 544 = .ok (.iload 13, 2) := by decide +kernel
theorem dL_causes_546 : decode cL_causes 546 = .ok (.if_icmp .ne 31, 3) := by decide +kernel
theorem dL_causes_549 : decode cL_causes 549 = .ok (.iload 14, 2) := by decide +kernel
theorem dL_causes_551 : decode cL_causes 551 = .ok (.ifCond .eq 8, 3) := by decide +kernel
theorem dL_causes_554 : decode cL_causes 554 = .ok (.iload 15, 2) := by decide +kernel
theorem dL_causes_556 : decode cL_causes 556 = .ok (.ifCond .eq 17, 3) := by decide +kernel
theorem dL_causes_559 : decode cL_causes 559 = .ok (.iload 14, 2) := by decide +kernel
theorem dL_causes_561 : decode cL_causes 561 = .ok (.iload 15, 2) := by decide +kernel
theorem dL_causes_563 : decode cL_causes 563 = .ok (.if_icmp .ne 14, 3) := by decide +kernel
theorem dL_causes_566 : decode cL_causes 566 = .ok (.iload 10, 2) := by decide +kernel
theorem dL_causes_568 : decode cL_causes 568 = .ok (.iload 11, 2) := by decide +kernel
theorem dL_causes_570 : decode cL_causes 570 = .ok (.if_icmp .gt 7, 3) := by decide +kernel
theorem dL_causes_573 : decode cL_causes 573 = .ok (.iconst 1, 1) := by decide +kernel
theorem dL_causes_574 : decode cL_causes 574 = .ok (.goto 4, 3) := by decide +kernel
theorem dL_causes_577 : decode cL_causes 577 = .ok (.iconst 0, 1) := by decide +kernel
theorem dL_causes_578 : decode cL_causes 578 = .ok (.istore 4, 2) := by decide +kernel
theorem dL_causes_580 : decode cL_causes 580 = .ok (.iinc 11 1, 3) := by decide +kernel
theorem dL_causes_583 : decode cL_causes 583 = .ok (.goto (-132), 3) := by decide +kernel
theorem dL_causes_586 : decode cL_causes 586 = .ok (.iload 7, 2) := by decide +kernel
theorem dL_causes_588 : decode cL_causes 588 = .ok (.iload 4, 2) := by decide +kernel
theorem dL_causes_590 : decode cL_causes 590 = .ok (.ifCond .eq 12, 3) := by decide +kernel
theorem dL_causes_593 : decode cL_causes 593 = .ok (.aload_n 1, 1) := by decide +kernel
theorem dL_causes_594 : decode cL_causes 594 = .ok (.iload 10, 2) := by decide +kernel
theorem dL_causes_596 : decode cL_causes 596 = .ok (.iaload, 1) := by decide +kernel
theorem dL_causes_597 : decode cL_causes 597 = .ok (.iconst (-1), 1) := by decide +kernel
theorem dL_causes_598 : decode cL_causes 598 = .ok (.ixor, 1) := by decide +kernel
theorem dL_causes_599 : decode cL_causes 599 = .ok (.goto 5, 3) := by decide +kernel
theorem dL_causes_602 : decode cL_causes 602 = .ok (.iload 7, 2) := by decide +kernel
theorem dL_causes_604 : decode cL_causes 604 = .ok (.iand, 1) := by decide +kernel
theorem dL_causes_605 : decode cL_causes 605 = .ok (.istore 7, 2) := by decide +kernel
theorem dL_causes_607 : decode cL_causes 607 = .ok (.iinc 9 1, 3) := by decide +kernel
theorem dL_causes_610 : decode cL_causes 610 = .ok (.goto (-214), 3) := by decide +kernel
theorem dL_causes_613 : decode cL_causes 613 = .ok (.iload 4, 2) := by decide +kernel
theorem dL_causes_615 : decode cL_causes 615 = .ok (.ifCond .eq 42, 3) := by decide +kernel
theorem dL_causes_618 : decode cL_causes 618 = .ok (.iload 7, 2) := by decide +kernel
theorem dL_causes_620 : decode cL_causes 620 = .ok (.ifCond .ne 37, 3) := by decide +kernel
theorem dL_causes_623 : decode cL_causes 623 = .ok (.iload 8, 2) := by decide +kernel
theorem dL_causes_625 : decode cL_causes 625 = .ok (.aload_n 0, 1) := by decide +kernel
theorem dL_causes_626 : decode cL_causes 626 = .ok (.invokevirtual 86, 3) := by decide +kernel
theorem dL_causes_629 : decode cL_causes 629 = .ok (.if_icmp .lt 28, 3) := by decide +kernel
theorem dL_causes_632 : decode cL_causes 632 = .ok (.aload_n 0, 1) := by decide +kernel
theorem dL_causes_633 : decode cL_causes 633 = .ok (.iload 8, 2) := by decide +kernel
theorem dL_causes_635 : decode cL_causes 635 = .ok (.invokestatic 102, 3) := by decide +kernel
theorem dL_causes_638 : decode cL_causes 638 = .ok (.bipush (-101), 2) := by decide +kernel
theorem dL_causes_640 : decode cL_causes 640 = .ok (.if_icmp .ne 17, 3) := by decide +kernel
theorem dL_causes_643 : decode cL_causes 643 = .ok (.aload_n 0, 1) := by decide +kernel
theorem dL_causes_644 : decode cL_causes 644 = .ok (.iconst (-1), 1) := by decide +kernel
theorem dL_causes_645 : decode cL_causes 645 = .ok (.invokestatic 102, 3) := by decide +kernel
theorem dL_causes_648 : decode cL_causes 648 = .ok (.bipush (-101), 2) := by decide +kernel
theorem dL_causes_650 : decode cL_causes 650 = .ok (.if_icmp .ne 7, 3) := by decide +kernel
theorem dL_causes_653 : decode cL_causes 653 = .ok (.iconst 1, 1) := by decide +kernel
theorem dL_causes_654 : decode cL_causes 654 = .ok (.goto 4, 3) := by decide +kernel
theorem dL_causes_657 : decode cL_causes 657 = .ok (.iconst 0, 1) := by decide +kernel
theorem dL_causes_658 : decode cL_causes 658 = .ok (.istore 4, 2) := by decide +kernel
theorem dL_causes_660 : decode cL_causes 660 = .ok (.iconst 0, 1) := by decide +kernel
theorem dL_causes_661 : decode cL_causes 661 = .ok (.istore 9, 2) := by decide +kernel
theorem dL_causes_663 : decode cL_causes 663 = .ok (.iload 9, 2) := by decide +kernel
theorem dL_causes_665 : decode cL_causes 665 = .ok (.bipush 14, 2) := by decide +kernel
theorem dL_causes_667 : decode cL_causes 667 = .ok (.if_icmp .ge 93, 3) := by decide +kernel
theorem dL_causes_670 : decode cL_causes 670 = .ok (.iload 4, 2) := by decide +kernel
theorem dL_causes_672 : decode cL_causes 672 = .ok (.ifCond .eq 88, 3) := by decide +kernel
theorem dL_causes_675 : decode cL_causes 675 = .ok (.iconst (-1), 1) := by decide +kernel
theorem dL_causes_676 : decode cL_causes 676 = .ok (.istore 10, 2) := by decide +kernel
theorem dL_causes_678 : decode cL_causes 678 = .ok (.bipush 13, 2) := by decide +kernel
theorem dL_causes_680 : decode cL_causes 680 = .ok (.istore 11, 2) := by decide +kernel
theorem dL_causes_682 : decode cL_causes 682 = .ok (.iload 11, 2) := by decide +kernel
theorem dL_causes_684 : decode cL_causes 684 = .ok (.ifCond .lt 52, 3) := by decide +kernel
theorem dL_causes_687 : decode cL_causes 687 = .ok (.iload 5, 2) := by decide +kernel
theorem dL_causes_689 : decode cL_causes 689 = .ok (.iload 11, 2) := by decide +kernel
theorem dL_causes_691 : decode cL_causes 691 = .ok (.ishr, 1) := by decide +kernel
theorem dL_causes_692 : decode cL_causes 692 = .ok (.iconst 1, 1) := by decide +kernel
theorem dL_causes_693 : decode cL_causes 693 = .ok (.iand, 1) := by decide +kernel
theorem dL_causes_694 : decode cL_causes 694 = .ok (.iconst 1, 1) := by decide +kernel
theorem dL_causes_695 : decode cL_causes 695 = .ok (.if_icmp .ne 31, 3) := by decide +kernel
theorem dL_causes_698 : decode cL_causes 698 = .ok (.aload_n 1, 1) := by decide +kernel
theorem dL_causes_699 : decode cL_causes 699 = .ok (.iload 11, 2) := by decide +kernel
theorem dL_causes_701 : decode cL_causes 701 = .ok (.iaload, 1) := by decide +kernel
theorem dL_causes_702 : decode cL_causes 702 = .ok (.iload 9, 2) := by decide +kernel
theorem dL_causes_704 : decode cL_causes 704 = .ok (.ishr, 1) := by decide +kernel
theorem dL_causes_705 : decode cL_causes 705 = .ok (.iconst 1, 1) := by decide +kernel
theorem dL_causes_706 : decode cL_causes 706 = .ok (.iand, 1) := by decide +kernel
theorem dL_causes_707 : decode cL_causes 707 = .ok (.iconst 1, 1) := by decide +kernel
theorem dL_causes_708 : decode cL_causes 708 = .ok (.if_icmp .ne 18, 3) := by decide +kernel
theorem dL_causes_711 : decode cL_causes 711 = .ok (.iload_n 3, 1) := by decide +kernel
theorem dL_causes_712 : decode cL_causes 712 = .ok (.iload 9, 2) := by decide +kernel
theorem dL_causes_714 : decode cL_causes 714 = .ok (.ishr, 1) := by decide +kernel
theorem dL_causes_715 : decode cL_causes 715 = .ok (.iconst 1, 1) := by decide +kernel
theorem dL_causes_716 : decode cL_causes 716 = .ok (.iand, 1) := by decide +kernel
theorem dL_causes_717 : decode cL_causes 717 = .ok (.iconst 1, 1) := by decide +kernel
theorem dL_causes_718 : decode cL_causes 718 = .ok (.if_icmp .ne 8, 3) := by decide +kernel
theorem dL_causes_721 : decode cL_causes 721 = .ok (.iload 11, 2) := by decide +kernel
theorem dL_causes_723 : decode cL_causes 723 = .ok (.goto 5, 3) := by decide +kernel
theorem dL_causes_726 : decode cL_causes 726 = .ok (.iload 10, 2) := by decide +kernel
theorem dL_causes_728 : decode cL_causes 728 = .ok (.istore 10, 2) := by decide +kernel
theorem dL_causes_730 : decode cL_causes 730 = .ok (.iinc 11 (-1), 3) := by decide +kernel
theorem dL_causes_733 : decode cL_causes 733 = .ok (.goto (-51), 3) := by decide +kernel
theorem dL_causes_736 : decode cL_causes 736 = .ok (.aload_n 0, 1) := by decide +kernel
theorem dL_causes_737 : decode cL_causes 737 = .ok (.iload 9, 2) := by decide +kernel
theorem dL_causes_739 : decode cL_causes 739 = .ok (.invokestatic 105, 3) := by decide +kernel
theorem dL_causes_742 : decode cL_causes 742 = .ok (.iload 10, 2) := by decide +kernel
theorem dL_causes_744 : decode cL_causes 744 = .ok (.if_icmp .ne 7, 3) := by decide +kernel
theorem dL_causes_747 : decode cL_causes 747 = .ok (.iconst 1, 1) := by decide +kernel
theorem dL_causes_748 : decode cL_causes 748 = .ok (.goto 4, 3) := by decide +kernel
theorem dL_causes_751 : decode cL_causes 751 = .ok (.iconst 0, 1) := by decide +kernel
theorem dL_causes_752 : decode cL_causes 752 = .ok (.istore 4, 2) := by decide +kernel
theorem dL_causes_754 : decode cL_causes 754 = .ok (.iinc 9 1, 3) := by decide +kernel
theorem dL_causes_757 : decode cL_causes 757 = .ok (.goto (-94), 3) := by decide +kernel
theorem dL_causes_760 : decode cL_causes 760 = .ok (.iload 4, 2) := by decide +kernel
theorem dL_causes_762 : decode cL_causes 762 = .ok (.ireturn, 1) := by decide +kernel
theorem dL_law_0 : decode cL_law 0 = .ok (.new 10, 3) := by decide +kernel
theorem dL_law_3 : decode cL_law 3 = .ok (.dup, 1) := by decide +kernel
theorem dL_law_4 : decode cL_law 4 = .ok (.invokespecial 107, 3) := by decide +kernel
theorem dL_law_7 : decode cL_law 7 = .ok (.astore_n 1, 1) := by decide +kernel
theorem dL_law_8 : decode cL_law 8 = .ok (.aload_n 1, 1) := by decide +kernel
theorem dL_law_9 : decode cL_law 9 = .ok (.invokestatic 108, 3) := by decide +kernel
theorem dL_law_12 : decode cL_law 12 = .ok (.ifCond .eq 14, 3) := by decide +kernel
theorem dL_law_15 : decode cL_law 15 = .ok (.aload_n 1, 1) := by decide +kernel
theorem dL_law_16 : decode cL_law 16 = .ok (.invokestatic 112, 3) := by decide +kernel
theorem dL_law_19 : decode cL_law 19 = .ok (.ifCond .eq 7, 3) := by decide +kernel
theorem dL_law_22 : decode cL_law 22 = .ok (.iconst 1, 1) := by decide +kernel
theorem dL_law_23 : decode cL_law 23 = .ok (.goto 4, 3) := by decide +kernel
theorem dL_law_26 : decode cL_law 26 = .ok (.iconst 0, 1) := by decide +kernel
theorem dL_law_27 : decode cL_law 27 = .ok (.istore_n 2, 1) := by decide +kernel
theorem dL_law_28 : decode cL_law 28 = .ok (.iconst 0, 1) := by decide +kernel
theorem dL_law_29 : decode cL_law 29 = .ok (.istore_n 3, 1) := by decide +kernel
theorem dL_law_30 : decode cL_law 30 = .ok (.iload_n 3, 1) := by decide +kernel
theorem dL_law_31 : decode cL_law 31 = .ok (.bipush 40, 2) := by decide +kernel
theorem dL_law_33 : decode cL_law 33 = .ok (.if_icmp .ge 404, 3) := by decide +kernel
theorem dL_law_36 : decode cL_law 36 = .ok (.iload_n 2, 1) := by decide +kernel
theorem dL_law_37 : decode cL_law 37 = .ok (.ifCond .eq 400, 3) := by decide +kernel
theorem dL_law_40 : decode cL_law 40 = .ok (.aload_n 0, 1) := by decide +kernel
theorem dL_law_41 : decode cL_law 41 = .ok (.iload_n 3, 1) := by decide +kernel
theorem dL_law_42 : decode cL_law 42 = .ok (.invokestatic 114, 3) := by decide +kernel
theorem dL_law_45 : decode cL_law 45 = .ok (.istore 4, 2) := by decide +kernel
theorem dL_law_47 : decode cL_law 47 = .ok (.iload 4, 2) := by decide +kernel
theorem dL_law_49 : decode cL_law 49 = .ok (.bipush 8, 2) := by decide +kernel
theorem dL_law_51 : decode cL_law 51 = .ok (.idiv, 1) := by decide +kernel
theorem dL_law_52 : decode cL_law 52 = .ok (.istore 5, 2) := by decide +kernel
theorem dL_law_54 : decode cL_law 54 = .ok (.iload 5, 2) := by decide +kernel
theorem dL_law_56 : decode cL_law 56 = .ok (.bipush 14, 2) := by decide +kernel
theorem dL_law_58 : decode cL_law 58 = .ok (.irem, 1) := by decide +kernel
theorem dL_law_59 : decode cL_law 59 = .ok (.istore 6, 2) := by decide +kernel
theorem dL_law_61 : decode cL_law 61 = .ok (.iload 5, 2) := by decide +kernel
theorem dL_law_63 : decode cL_law 63 = .ok (.bipush 14, 2) := by decide +kernel
theorem dL_law_65 : decode cL_law 65 = .ok (.idiv, 1) := by decide +kernel
theorem dL_law_66 : decode cL_law 66 = .ok (.bipush 14, 2) := by decide +kernel
theorem dL_law_68 : decode cL_law 68 = .ok (.irem, 1) := by decide +kernel
theorem dL_law_69 : decode cL_law 69 = .ok (.istore 7, 2) := by decide +kernel
theorem dL_law_71 : decode cL_law 71 = .ok (.iload 4, 2) := by decide +kernel
theorem dL_law_73 : decode cL_law 73 = .ok (.bipush 8, 2) := by decide +kernel
theorem dL_law_75 : decode cL_law 75 = .ok (.irem, 1) := by decide +kernel
theorem dL_law_76 : decode cL_law 76 = .ok (.iconst 2, 1) := by decide +kernel
theorem dL_law_77 : decode cL_law 77 = .ok (.if_icmp .lt 9, 3) := by decide +kernel
theorem dL_law_80 : decode cL_law 80 = .ok (.iload_n 3, 1) := by decide +kernel
theorem dL_law_81 : decode cL_law 81 = .ok (.bipush 10, 2) := by decide +kernel
theorem dL_law_83 : decode cL_law 83 = .ok (.if_icmp .ge 75, 3) := by decide +kernel
theorem dL_law_86 : decode cL_law 86 = .ok (.iload 6, 2) := by decide +kernel
theorem dL_law_88 : decode cL_law 88 = .ok (.iload 7, 2) := by decide +kernel
theorem dL_law_90 : decode cL_law 90 = .ok (.if_icmp .eq 18, 3) := by decide +kernel
theorem dL_law_93 : decode cL_law 93 = .ok (.aload_n 1, 1) := by decide +kernel
theorem dL_law_94 : decode cL_law 94 = .ok (.iload 7, 2) := by decide +kernel
theorem dL_law_96 : decode cL_law 96 = .ok (.iload 6, 2) := by decide +kernel
theorem dL_law_98 : decode cL_law 98 = .ok (.invokestatic 70, 3) := by decide +kernel
theorem dL_law_101 : decode cL_law 101 = .ok (.ifCond .ne 7, 3) := by decide +kernel
theorem dL_law_104 : decode cL_law 104 = .ok (.iconst 1, 1) := by decide +kernel
theorem dL_law_105 : decode cL_law 105 = .ok (.goto 4, 3) := by decide +kernel
theorem dL_law_108 : decode cL_law 108 = .ok (.iconst 0, 1) := by decide +kernel
theorem dL_law_109 : decode cL_law 109 = .ok (.istore 8, 2) := by decide +kernel
theorem dL_law_111 : decode cL_law 111 = .ok (.aload_n 1, 1) := by decide +kernel
theorem dL_law_112 : decode cL_law 112 = .ok (.iload 6, 2) := by decide +kernel
theorem dL_law_114 : decode cL_law 114 = .ok (.iload 7, 2) := by decide +kernel
theorem dL_law_116 : decode cL_law 116 = .ok (.invokestatic 117, 3) := by decide +kernel
theorem dL_law_119 : decode cL_law 119 = .ok (.ifCond .lt 7, 3) := by decide +kernel
theorem dL_law_122 : decode cL_law 122 = .ok (.iconst 1, 1) := by decide +kernel
theorem dL_law_123 : decode cL_law 123 = .ok (.goto 4, 3) := by decide +kernel
theorem dL_law_126 : decode cL_law 126 = .ok (.iconst 0, 1) := by decide +kernel
theorem dL_law_127 : decode cL_law 127 = .ok (.iload 8, 2) := by decide +kernel
theorem dL_law_129 : decode cL_law 129 = .ok (.if_icmp .ne 24, 3) := by decide +kernel
theorem dL_law_132 : decode cL_law 132 = .ok (.aload_n 1, 1) := by decide +kernel
theorem dL_law_133 : decode cL_law 133 = .ok (.iload 6, 2) := by decide +kernel
theorem dL_law_135 : decode cL_law 135 = .ok (.iload 7, 2) := by decide +kernel
theorem dL_law_137 : decode cL_law 137 = .ok (.invokestatic 62, 3) := by decide +kernel
theorem dL_law_140 : decode cL_law 140 = .ok (.iconst 1, 1) := by decide +kernel
theorem dL_law_141 : decode cL_law 141 = .ok (.if_icmp .eq 8, 3) := by decide +kernel
theorem dL_law_144 : decode cL_law 144 = .ok (.iload 8, 2) := by decide +kernel
theorem dL_law_146 : decode cL_law 146 = .ok (.ifCond .ne 7, 3) := by decide +kernel
theorem dL_law_149 : decode cL_law 149 = .ok (.iconst 1, 1) := by decide +kernel
theorem dL_law_150 : decode cL_law 150 = .ok (.goto 4, 3) := by decide +kernel
theorem dL_law_153 : decode cL_law 153 = .ok (.iconst 0, 1) := by decide +kernel
theorem dL_law_154 : decode cL_law 154 = .ok (.istore_n 2, 1) := by decide +kernel
theorem dL_law_155 : decode cL_law 155 = .ok (.goto 240, 3) := by decide +kernel
theorem dL_law_158 : decode cL_law 158 = .ok (.iload 4, 2) := by decide +kernel
theorem dL_law_160 : decode cL_law 160 = .ok (.bipush 8, 2) := by decide +kernel
theorem dL_law_162 : decode cL_law 162 = .ok (.irem, 1) := by decide +kernel
theorem dL_law_163 : decode cL_law 163 = .ok (.iconst 2, 1) := by decide +kernel
theorem dL_law_164 : decode cL_law 164 = .ok (.if_icmp .ne 46, 3) := by decide +kernel
theorem dL_law_167 : decode cL_law 167 = .ok (.aload_n 1, 1) := by decide +kernel
theorem dL_law_168 : decode cL_law 168 = .ok (.iload 6, 2) := by decide +kernel
theorem dL_law_170 : decode cL_law 170 = .ok (.iload 7, 2) := by decide +kernel
theorem dL_law_172 : decode cL_law 172 = .ok (.invokestatic 62, 3) := by decide +kernel
theorem dL_law_175 : decode cL_law 175 = .ok (.istore 8, 2) := by decide +kernel
theorem dL_law_177 : decode cL_law 177 = .ok (.aload_n 1, 1) := by decide +kernel
theorem dL_law_178 : decode cL_law 178 = .ok (.iload 6, 2) := by decide +kernel
theorem dL_law_180 : decode cL_law 180 = .ok (.iload 7, 2) := by decide +kernel
theorem dL_law_182 : decode cL_law 182 = .ok (.invokestatic 119, 3) := by decide +kernel
theorem dL_law_185 : decode cL_law 185 = .ok (.iload 8, 2) := by decide +kernel
theorem dL_law_187 : decode cL_law 187 = .ok (.if_icmp .ne 18, 3) := by decide +kernel
theorem dL_law_190 : decode cL_law 190 = .ok (.aload_n 1, 1) := by decide +kernel
theorem dL_law_191 : decode cL_law 191 = .ok (.iload 6, 2) := by decide +kernel
theorem dL_law_193 : decode cL_law 193 = .ok (.iload 7, 2) := by decide +kernel
theorem dL_law_195 : decode cL_law 195 = .ok (.invokestatic 62, 3) := by decide +kernel
theorem dL_law_198 : decode cL_law 198 = .ok (.ifCond .ne 7, 3) := by decide +kernel
theorem dL_law_201 : decode cL_law 201 = .ok (.iconst 1, 1) := by decide +kernel
theorem dL_law_202 : decode cL_law 202 = .ok (.goto 4, 3) := by decide +kernel
theorem dL_law_205 : decode cL_law 205 = .ok (.iconst 0, 1) := by decide +kernel
theorem dL_law_206 : decode cL_law 206 = .ok (.istore_n 2, 1) := by decide +kernel
theorem dL_law_207 : decode cL_law 207 = .ok (.goto 188, 3) := by decide +kernel
theorem dL_law_210 : decode cL_law 210 = .ok (.iload 4, 2) := by decide +kernel
theorem dL_law_212 : decode cL_law 212 = .ok (.bipush 8, 2) := by decide +kernel
theorem dL_law_214 : decode cL_law 214 = .ok (.irem, 1) := by decide +kernel
theorem dL_law_215 : decode cL_law 215 = .ok (.iconst 3, 1) := by decide +kernel
theorem dL_law_216 : decode cL_law 216 = .ok (.if_icmp .ne 42, 3) := by decide +kernel
theorem dL_law_219 : decode cL_law 219 = .ok (.aload_n 1, 1) := by decide +kernel
theorem dL_law_220 : decode cL_law 220 = .ok (.invokevirtual 121, 3) := by decide +kernel
theorem dL_law_223 : decode cL_law 223 = .ok (.istore 8, 2) := by decide +kernel
theorem dL_law_225 : decode cL_law 225 = .ok (.aload_n 1, 1) := by decide +kernel
theorem dL_law_226 : decode cL_law 226 = .ok (.iconst 1, 1) := by decide +kernel
theorem dL_law_227 : decode cL_law 227 = .ok (.iload 5, 2) := by decide +kernel
theorem dL_law_229 : decode cL_law 229 = .ok (.bipush 100, 2) := by decide +kernel
theorem dL_law_231 : decode cL_law 231 = .ok (.irem, 1) := by decide +kernel
theorem dL_law_232 : decode cL_law 232 = .ok (.iadd, 1) := by decide +kernel
theorem dL_law_233 : decode cL_law 233 = .ok (.invokestatic 124, 3) := by decide +kernel
theorem dL_law_236 : decode cL_law 236 = .ok (.iload 8, 2) := by decide +kernel
theorem dL_law_238 : decode cL_law 238 = .ok (.iconst 1, 1) := by decide +kernel
theorem dL_law_239 : decode cL_law 239 = .ok (.iadd, 1) := by decide +kernel
theorem dL_law_240 : decode cL_law 240 = .ok (.iload 5, 2) := by decide +kernel
theorem dL_law_242 : decode cL_law 242 = .ok (.bipush 100, 2) := by decide +kernel
theorem dL_law_244 : decode cL_law 244 = .ok (.irem, 1) := by decide +kernel
theorem dL_law_245 : decode cL_law 245 = .ok (.iadd, 1) := by decide +kernel
theorem dL_law_246 : decode cL_law 246 = .ok (.if_icmp .ne 7, 3) := by decide +kernel
theorem dL_law_249 : decode cL_law 249 = .ok (.iconst 1, 1) := by decide +kernel
theorem dL_law_250 : decode cL_law 250 = .ok (.goto 4, 3) := by decide +kernel
theorem dL_law_253 : decode cL_law 253 = .ok (.iconst 0, 1) := by decide +kernel
theorem dL_law_254 : decode cL_law 254 = .ok (.istore_n 2, 1) := by decide +kernel
theorem dL_law_255 : decode cL_law 255 = .ok (.goto 140, 3) := by decide +kernel
theorem dL_law_258 : decode cL_law 258 = .ok (.aload_n 1, 1) := by decide +kernel
theorem dL_law_259 : decode cL_law 259 = .ok (.iload 6, 2) := by decide +kernel
theorem dL_law_261 : decode cL_law 261 = .ok (.invokestatic 80, 3) := by decide +kernel
theorem dL_law_264 : decode cL_law 264 = .ok (.ifCond .le 7, 3) := by decide +kernel
theorem dL_law_267 : decode cL_law 267 = .ok (.iconst 1, 1) := by decide +kernel
theorem dL_law_268 : decode cL_law 268 = .ok (.goto 4, 3) := by decide +kernel
theorem dL_law_271 : decode cL_law 271 = .ok (.iconst 0, 1) := by decide +kernel
theorem dL_law_272 : decode cL_law 272 = .ok (.istore 8, 2) := by decide +kernel
theorem dL_law_274 : decode cL_law 274 = .ok (.aload_n 1, 1) := by decide +kernel
theorem dL_law_275 : decode cL_law 275 = .ok (.invokevirtual 126, 3) := by decide +kernel
theorem dL_law_278 : decode cL_law 278 = .ok (.istore 9, 2) := by decide +kernel
theorem dL_law_280 : decode cL_law 280 = .ok (.iload 8, 2) := by decide +kernel
theorem dL_law_282 : decode cL_law 282 = .ok (.ifCond .eq 48, 3) := by decide +kernel
theorem dL_law_285 : decode cL_law 285 = .ok (.aload_n 1, 1) := by decide +kernel
theorem dL_law_286 : decode cL_law 286 = .ok (.iload 6, 2) := by decide +kernel
theorem dL_law_288 : decode cL_law 288 = .ok (.invokestatic 129, 3) := by decide +kernel
theorem dL_law_291 : decode cL_law 291 = .ok (.ifCond .lt 35, 3) := by decide +kernel
theorem dL_law_294 : decode cL_law 294 = .ok (.aload_n 1, 1) := by decide +kernel
theorem dL_law_295 : decode cL_law 295 = .ok (.iload 6, 2) := by decide +kernel
theorem dL_law_297 : decode cL_law 297 = .ok (.invokestatic 80, 3) := by decide +kernel
theorem dL_law_300 : decode cL_law 300 = .ok (.iconst (-1), 1) := by decide +kernel
theorem dL_law_301 : decode cL_law 301 = .ok (.if_icmp .ne 25, 3) := by decide +kernel
theorem dL_law_304 : decode cL_law 304 = .ok (.aload_n 1, 1) := by decide +kernel
theorem dL_law_305 : decode cL_law 305 = .ok (.iload 6, 2) := by decide +kernel
theorem dL_law_307 : decode cL_law 307 = .ok (.invokestatic 131, 3) := by decide +kernel
theorem dL_law_310 : decode cL_law 310 = .ok (.ifCond .le 16, 3) := by decide +kernel
theorem dL_law_313 : decode cL_law 313 = .ok (.aload_n 1, 1) := by decide +kernel
theorem dL_law_314 : decode cL_law 314 = .ok (.iload 6, 2) := by decide +kernel
theorem dL_law_316 : decode cL_law 316 = .ok (.invokestatic 129, 3) := by decide +kernel
theorem dL_law_319 : decode cL_law 319 = .ok (.ifCond .lt 7, 3) := by decide +kernel
theorem dL_law_322 : decode cL_law 322 = .ok (.iconst 1, 1) := by decide +kernel
theorem dL_law_323 : decode cL_law 323 = .ok (.goto 41, 3) := by decide +kernel
theorem dL_law_326 : decode cL_law 326 = .ok (.iconst 0, 1) := by decide +kernel
theorem dL_law_327 : decode cL_law 327 = .ok (.goto 37, 3) := by decide +kernel
theorem dL_law_330 : decode cL_law 330 = .ok (.aload_n 1, 1) := by decide +kernel
theorem dL_law_331 : decode cL_law 331 = .ok (.iload 6, 2) := by decide +kernel
theorem dL_law_333 : decode cL_law 333 = .ok (.invokestatic 131, 3) := by decide +kernel
theorem dL_law_336 : decode cL_law 336 = .ok (.ifCond .le 27, 3) := by decide +kernel
theorem dL_law_339 : decode cL_law 339 = .ok (.aload_n 1, 1) := by decide +kernel
theorem dL_law_340 : decode cL_law 340 = .ok (.iload 6, 2) := by decide +kernel
theorem dL_law_342 : decode cL_law 342 = .ok (.invokestatic 80, 3) := by decide +kernel
theorem dL_law_345 : decode cL_law 345 = .ok (.ifCond .le 18, 3) := by decide +kernel
theorem dL_law_348 : decode cL_law 348 = .ok (.aload_n 1, 1) := by decide +kernel
theorem dL_law_349 : decode cL_law 349 = .ok (.iload 6, 2) := by decide +kernel
theorem dL_law_351 : decode cL_law 351 = .ok (.invokestatic 131, 3) := by decide +kernel
theorem dL_law_354 : decode cL_law 354 = .ok (.bipush (-103), 2) := by decide +kernel
theorem dL_law_356 : decode cL_law 356 = .ok (.if_icmp .ne 7, 3) := by decide +kernel
theorem dL_law_359 : decode cL_law 359 = .ok (.iconst 1, 1) := by decide +kernel
theorem dL_law_360 : decode cL_law 360 = .ok (.goto 4, 3) := by decide +kernel
theorem dL_law_363 : decode cL_law 363 = .ok (.iconst 0, 1) := by decide +kernel
theorem dL_law_364 : decode cL_law 364 = .ok (.istore_n 2, 1) := by decide +kernel
theorem dL_law_365 : decode cL_law 365 = .ok (.iload_n 2, 1) := by decide +kernel
theorem dL_law_366 : decode cL_law 366 = .ok (.ifCond .eq 27, 3) := by decide +kernel
theorem dL_law_369 : decode cL_law 369 = .ok (.aload_n 1, 1) := by decide +kernel
theorem dL_law_370 : decode cL_law 370 = .ok (.invokevirtual 126, 3) := by decide +kernel
theorem dL_law_373 : decode cL_law 373 = .ok (.iload 9, 2) := by decide +kernel
theorem dL_law_375 : decode cL_law 375 = .ok (.iload 8, 2) := by decide +kernel
theorem dL_law_377 : decode cL_law 377 = .ok (.ifCond .eq 7, 3) := by decide +kernel
theorem dL_law_380 : decode cL_law 380 = .ok (.iconst 3, 1) := by decide +kernel
theorem dL_law_381 : decode cL_law 381 = .ok (.goto 4, 3) := by decide +kernel
theorem dL_law_384 : decode cL_law 384 = .ok (.iconst 1, 1) := by decide +kernel
theorem dL_law_385 : decode cL_law 385 = .ok (.iadd, 1) := by decide +kernel
theorem dL_law_386 : decode cL_law 386 = .ok (.if_icmp .ne 7, 3) := by decide +kernel
theorem dL_law_389 : decode cL_law 389 = .ok (.iconst 1, 1) := by decide +kernel
theorem dL_law_390 : decode cL_law 390 = .ok (.goto 4, 3) := by decide +kernel
theorem dL_law_393 : decode cL_law 393 = .ok (.iconst 0, 1) := by decide +kernel
theorem dL_law_394 : decode cL_law 394 = .ok (.istore_n 2, 1) := by decide +kernel
theorem dL_law_395 : decode cL_law 395 = .ok (.iload_n 2, 1) := by decide +kernel
theorem dL_law_396 : decode cL_law 396 = .ok (.ifCond .eq 33, 3) := by decide +kernel
theorem dL_law_399 : decode cL_law 399 = .ok (.iload_n 3, 1) := by decide +kernel
theorem dL_law_400 : decode cL_law 400 = .ok (.iconst 5, 1) := by decide +kernel
theorem dL_law_401 : decode cL_law 401 = .ok (.irem, 1) := by decide +kernel
theorem dL_law_402 : decode cL_law 402 = .ok (.ifCond .gt 10, 3) := by decide +kernel
theorem dL_law_405 : decode cL_law 405 = .ok (.aload_n 1, 1) := by decide +kernel
theorem dL_law_406 : decode cL_law 406 = .ok (.invokestatic 108, 3) := by decide +kernel
theorem dL_law_409 : decode cL_law 409 = .ok (.ifCond .eq 20, 3) := by decide +kernel
theorem dL_law_412 : decode cL_law 412 = .ok (.iload_n 3, 1) := by decide +kernel
theorem dL_law_413 : decode cL_law 413 = .ok (.iconst 3, 1) := by decide +kernel
theorem dL_law_414 : decode cL_law 414 = .ok (.irem, 1) := by decide +kernel
theorem dL_law_415 : decode cL_law 415 = .ok (.ifCond .gt 10, 3) := by decide +kernel
theorem dL_law_418 : decode cL_law 418 = .ok (.aload_n 1, 1) := by decide +kernel
theorem dL_law_419 : decode cL_law 419 = .ok (.invokestatic 112, 3) := by decide +kernel
theorem dL_law_422 : decode cL_law 422 = .ok (.ifCond .eq 7, 3) := by decide +kernel
theorem dL_law_425 : decode cL_law 425 = .ok (.iconst 1, 1) := by decide +kernel
theorem dL_law_426 : decode cL_law 426 = .ok (.goto 4, 3) := by decide +kernel
theorem dL_law_429 : decode cL_law 429 = .ok (.iconst 0, 1) := by decide +kernel
theorem dL_law_430 : decode cL_law 430 = .ok (.istore_n 2, 1) := by decide +kernel
theorem dL_law_431 : decode cL_law 431 = .ok (.iinc 3 1, 3) := by decide +kernel
theorem dL_law_434 : decode cL_law 434 = .ok (.goto (-404), 3) := by decide +kernel
theorem dL_law_437 : decode cL_law 437 = .ok (.iload_n 2, 1) := by decide +kernel
theorem dL_law_438 : decode cL_law 438 = .ok (.ifCond .eq 21, 3) := by decide +kernel
theorem dL_law_441 : decode cL_law 441 = .ok (.aload_n 1, 1) := by decide +kernel
theorem dL_law_442 : decode cL_law 442 = .ok (.invokestatic 108, 3) := by decide +kernel
theorem dL_law_445 : decode cL_law 445 = .ok (.ifCond .eq 14, 3) := by decide +kernel
theorem dL_law_448 : decode cL_law 448 = .ok (.aload_n 1, 1) := by decide +kernel
theorem dL_law_449 : decode cL_law 449 = .ok (.invokestatic 112, 3) := by decide +kernel
theorem dL_law_452 : decode cL_law 452 = .ok (.ifCond .eq 7, 3) := by decide +kernel
theorem dL_law_455 : decode cL_law 455 = .ok (.iconst 1, 1) := by decide +kernel
theorem dL_law_456 : decode cL_law 456 = .ok (.goto 4, 3) := by decide +kernel
theorem dL_law_459 : decode cL_law 459 = .ok (.iconst 0, 1) := by decide +kernel
theorem dL_law_460 : decode cL_law 460 = .ok (.ireturn, 1) := by decide +kernel
end
section
abbrev AA : Type := Nat → Int32
abbrev LA : Type := Nat → Int64
/-- the links between nest mates, which no list of words holds -/
def nbL : List (String × Nat × MethodName × String) := [(RX4, 18, yX2_init, RX4), (RX4, 9, yX1_init, RX4), (RX0, 52, yX4_has, RX4), (RX0, 55, yX4_nodeAtPlace, RX4), (RX0, 62, yX4_only, RX4), (RX1, 24, yX4_only, RX4), (RX1, 28, yX4_has, RX4), (RX3, 36, yX4_has, RX4)]
def NB (U : State) : Prop := ∀ q ∈ nbL, va_Nw (.methodLinkNest q.1 q.2.1 q.2.2.1 q.2.2.2) U
theorem NB.warm {s U : State} (hW : s.WarmedH U.vm) (h : NB s) : NB U := fun q hq => va_Nw.warmM hW (h q hq)
theorem NB.same {u U : State} (hv : u.vm = U.vm) (h : NB u) : NB U := fun q hq => va_Nw.same rfl hv (h q hq)
theorem NB.at {U : State} (h : NB U) (i : Nat) {q : String × Nat × MethodName × String} (hi : nbL[i]? = some q) : va_Nw (.methodLinkNest q.1 q.2.1 q.2.2.1 q.2.2.2) U := h q (List.mem_of_getElem? hi)
/-- the world that a call begins with -/
def PW (D : va_G) (tys : List (ClassId × FieldType)) (sz : Nat) (w : va_W) (U : State) : Prop := U.heap.size = sz ∧ va_P D vwCl w U.heap ∧ va_K D vwCl tys U ∧ va_D (fun _ => True) w ∧ NB U
/-- the world that a call ends with -/
def QW (D : va_G) (tys : List (ClassId × FieldType)) (A : Nat → Prop) (w : va_W) (t : State) : Prop := va_P D vwCl w t.heap ∧ va_K D vwCl tys t ∧ va_D A w
theorem PW.blind {av : List Value} {D : va_G} {tys : List (ClassId × FieldType)} {sz : Nat} {w : va_W} : FrameBlind (va_Pc av (PW D tys sz w)) := fun a U g mk q => by
  obtain ⟨q0, q1, q2, q3, q4, q5⟩ := q
  exact ⟨q0, q1, q2, va_K.moved (u := U) (U := U.calling g mk a) (Vm.Alike.refl U.vm) q3, q4, NB.same (u := U) rfl q5⟩
theorem PW.give {D : va_G} {tys : List (ClassId × FieldType)} {w : va_W} {s : State} {H : Heap} {A : Nat → Prop} (hP : va_P D vwCl w H) (hK : va_K D vwCl tys s) (hD : va_D A w) (hN : NB s) : ∀ U : State, U.heap = H → s.WarmedH U.vm → PW D tys H.size w U :=
  fun U hU hW => ⟨by rw [hU], by rw [hU]; exact hP, va_K.moved hW.alike hK, hD.weaken (fun _ _ _ _ => trivial), NB.warm hW hN⟩
theorem pick_of_map {α β : Type} {f : β → Option α} : ∀ {is : List β} {l : List α}, is.map f = l.map some → is.filterMap f = l
  | [], [], _ => rfl
  | [], _ :: _, h => by cases h
  | _ :: _, [], h => by cases h
  | i :: is, a :: l, h => by
    rw [List.map_cons, List.map_cons] at h
    have h1 := List.head_eq_of_cons_eq h
    have h2 := pick_of_map (List.tail_eq_of_cons_eq h)
    rw [List.filterMap_cons, h1, h2]
section
variable {p : Program} {l : Launch} {e : Env} {R : Room} {s : State} {m : MethodId} {args : Array Value} {below : List Frame} {meth : Method} {c : Code} {H : Heap} {locs : List Loc} {cells slots : Nat} {Q : State → Prop}
variable {mc ms : Nat} {A0 : Nat → Prop} {H0 : Heap} {a : Array Value} {pc : Nat} {ls : Array Slot} {st0 rest : List Value} {D : va_G} {tys : List (ClassId × FieldType)}
/-- what stands behind a call: the callee's cells as they came back, put where they were -/
theorem k_world {S : Type} {ws wc wr : va_W} {w1 w2 : S → va_W} (hP : va_P D vwCl ws H) (hD : va_D A0 ws) (hS : va_S A0 H0 H locs) (hA : ∀ q, H0.size ≤ q → A0 q)
    (isC isR : List Nat) (hC : isC.map (fun i => ws[i]?) = wc.map some) (hR : isR.map (fun i => ws[i]?) = wr.map some) (hn : va_nd isR = true) (hdis : (isR.all fun i => !isC.contains i) = true)
    (perm : List Nat) (hn2 : va_nd perm = true) (hp2 : ∀ u, perm.map (fun i => (wr ++ w1 u)[i]?) = (w2 u).map some)
    {u : S} {H1 : Heap} (hk1 : ∀ q : Nat, q < H.size → ¬ va_A wc H.size q → H1[q]? = H[q]?) (hP1 : va_P D vwCl (w1 u) H1) (hD1 : va_D (va_A wc H.size) (w1 u)) : va_P D vwCl (w2 u) H1 ∧ va_D A0 (w2 u) := by
  obtain ⟨h1, h2⟩ := va_join (wr := wr) (w1 := w1 u) hP hD isC isR hC hR hn (fun i hi hc => by
    have h9 := List.all_eq_true.mp hdis i hi
    rw [List.contains_iff_mem.mpr hc] at h9
    cases h9) hk1 (va_free (wc := wc) hD hS hA isC hC) hP1 hD1
  exact ⟨h1.sub perm (pick_of_map (hp2 u)), h2.sub perm hn2 (hp2 u)⟩
theorem k_calli {S : Type} {post : Int32 → S → Prop} {ws wc wr : va_W} {w1 : S → va_W} (w2 : S → va_W) (hP : va_P D vwCl ws H) (hK : va_K D vwCl tys s) (hD : va_D A0 ws) (hN : NB s) (hS : va_S A0 H0 H locs) (hA : ∀ q, H0.size ≤ q → A0 q)
    (isC isR : List Nat) (hC : isC.map (fun i => ws[i]?) = wc.map some) (hR : isR.map (fun i => ws[i]?) = wr.map some) (hn : va_nd isC = true) (hnr : va_nd isR = true) (hdis : (isR.all fun i => !isC.contains i) = true)
    (perm : List Nat) (hn2 : va_nd perm = true) (hp2 : ∀ u, perm.map (fun i => (wr ++ w1 u)[i]?) = (w2 u).map some)
    (run : (∀ U : State, U.heap = H → s.WarmedH U.vm → PW D tys H.size wc U) → va_Run p l e R s m args below meth c H locs cells slots mc ms (F0 m pc ls st0) rest (va_Qi post (fun u t => QW D tys (va_A wc H.size) (w1 u) t) (va_A wc H.size) a) (va_A wc H.size))
    (kk : ∀ (r : Int32) (u : S) (H1 : Heap) (locs1 : List Loc), post r u → va_P D vwCl (w2 u) H1 → va_D A0 (w2 u) → va_S A0 H0 H1 locs1 → W p l e R s m args below meth c H1 locs1 (cells + mc) (slots + ms) Q (F0 m (pc + 3) ls (.int r :: rest))) : W p l e R s m args below meth c H locs cells slots Q (F0 m pc ls st0) := by
  have hF := va_free (wc := wc) hD hS hA isC hC
  refine va_calli (run (PW.give (hP.sub isC (pick_of_map hC)) hK (hD.sub isC hn hC) hN)) hS (fun q _ h => hF q h) hF ?_
  intro r u t H1 locs1 ht hvm hw hB hz hk1 hS1
  obtain ⟨hP1, hK1, hD1⟩ := hB
  rw [ht] at hP1
  obtain ⟨h1, h2⟩ := k_world (w1 := w1) (w2 := w2) hP hD hS hA isC isR hC hR hnr hdis perm hn2 hp2 hk1 hP1 hD1
  exact kk r u H1 locs1 hw h1 h2 hS1
theorem k_callv {S : Type} {post : S → Prop} {ws wc wr : va_W} {w1 : S → va_W} (w2 : S → va_W) (hP : va_P D vwCl ws H) (hK : va_K D vwCl tys s) (hD : va_D A0 ws) (hN : NB s) (hS : va_S A0 H0 H locs) (hA : ∀ q, H0.size ≤ q → A0 q)
    (isC isR : List Nat) (hC : isC.map (fun i => ws[i]?) = wc.map some) (hR : isR.map (fun i => ws[i]?) = wr.map some) (hn : va_nd isC = true) (hnr : va_nd isR = true) (hdis : (isR.all fun i => !isC.contains i) = true)
    (perm : List Nat) (hn2 : va_nd perm = true) (hp2 : ∀ u, perm.map (fun i => (wr ++ w1 u)[i]?) = (w2 u).map some)
    (run : (∀ U : State, U.heap = H → s.WarmedH U.vm → PW D tys H.size wc U) → va_Run p l e R s m args below meth c H locs cells slots mc ms (F0 m pc ls st0) rest (va_Qv post (fun u t => QW D tys (va_A wc H.size) (w1 u) t) (va_A wc H.size) a) (va_A wc H.size))
    (kk : ∀ (u : S) (H1 : Heap) (locs1 : List Loc), post u → va_P D vwCl (w2 u) H1 → va_D A0 (w2 u) → va_S A0 H0 H1 locs1 → W p l e R s m args below meth c H1 locs1 (cells + mc) (slots + ms) Q (F0 m (pc + 3) ls rest)) : W p l e R s m args below meth c H locs cells slots Q (F0 m pc ls st0) := by
  have hF := va_free (wc := wc) hD hS hA isC hC
  refine va_callv (run (PW.give (hP.sub isC (pick_of_map hC)) hK (hD.sub isC hn hC) hN)) hS (fun q _ h => hF q h) hF ?_
  intro u t H1 locs1 ht hvm hw hB hz hk1 hS1
  obtain ⟨hP1, hK1, hD1⟩ := hB
  rw [ht] at hP1
  obtain ⟨h1, h2⟩ := k_world (w1 := w1) (w2 := w2) hP hD hS hA isC isR hC hR hnr hdis perm hn2 hp2 hk1 hP1 hD1
  exact kk u H1 locs1 hw h1 h2 hS1
theorem k_callr {S : Type} {post : S → Prop} {ws wc wr : va_W} {w1 : S → va_W} {ra : S → Nat} (w2 : S → va_W) (hP : va_P D vwCl ws H) (hK : va_K D vwCl tys s) (hD : va_D A0 ws) (hN : NB s) (hS : va_S A0 H0 H locs) (hA : ∀ q, H0.size ≤ q → A0 q)
    (isC isR : List Nat) (hC : isC.map (fun i => ws[i]?) = wc.map some) (hR : isR.map (fun i => ws[i]?) = wr.map some) (hn : va_nd isC = true) (hnr : va_nd isR = true) (hdis : (isR.all fun i => !isC.contains i) = true)
    (perm : List Nat) (hn2 : va_nd perm = true) (hp2 : ∀ u, perm.map (fun i => (wr ++ w1 u)[i]?) = (w2 u).map some)
    (run : (∀ U : State, U.heap = H → s.WarmedH U.vm → PW D tys H.size wc U) → va_Run p l e R s m args below meth c H locs cells slots mc ms (F0 m pc ls st0) rest (va_Qr post (fun u x t => x = ra u ∧ QW D tys (va_A wc H.size) (w1 u) t) (va_A wc H.size) a) (va_A wc H.size))
    (kk : ∀ (u : S) (H1 : Heap) (locs1 : List Loc), post u → va_P D vwCl (w2 u) H1 → va_D A0 (w2 u) → va_S A0 H0 H1 locs1 → W p l e R s m args below meth c H1 locs1 (cells + mc) (slots + ms) Q (F0 m (pc + 3) ls (.ref (ra u) :: rest))) : W p l e R s m args below meth c H locs cells slots Q (F0 m pc ls st0) := by
  have hF := va_free (wc := wc) hD hS hA isC hC
  refine va_callr (run (PW.give (hP.sub isC (pick_of_map hC)) hK (hD.sub isC hn hC) hN)) hS (fun q _ h => hF q h) hF ?_
  intro u ra t H1 locs1 ht hvm hw hB hz hk1 hS1
  obtain ⟨rfl, hP1, hK1, hD1⟩ := hB
  rw [ht] at hP1
  obtain ⟨h1, h2⟩ := k_world (w1 := w1) (w2 := w2) hP hD hS hA isC isR hC hR hnr hdis perm hn2 hp2 hk1 hP1 hD1
  exact kk u H1 locs1 hw h1 h2 hS1
/-- a new array of ints, of the one class that they all have -/
theorem k_newI {ws : va_W} {cI : ClassId} (hexec : p.tables.exec = Jvm.exec) {cc : ByteArray} (hb : c.code = cc) (harr : (Cond.arrayClass .int).before args s = true) {rs : List (ClassId × FieldType)} (hK : va_K D vwCl ((cI, .int) :: rs) s) (hP : va_P D vwCl ws H) (hD : va_D A0 ws) (hS : va_S A0 H0 H locs) (hA : ∀ q, H0.size ≤ q → A0 q)
    {n : Int32} {N' : Nat} (hn : ¬ n < 0) (hN : n.toNatClampNeg = N') (hbytes : N' * 4 ≤ 536870912) (hcells : cells + 1 ≤ R.cells) (hslots : slots + N' ≤ R.slots) (hdg : decode cc pc = .ok (.newarray .int, 2))
    (kk : ∀ (q : Nat) (H1 : Heap), va_P D vwCl (ws ++ [(q, .inl (cI, N', .inl (fun _ => 0)))]) H1 → va_D A0 (ws ++ [(q, .inl (cI, N', .inl (fun _ => 0)))]) → va_S A0 H0 H1 locs →
      W p l e R s m args below meth c H1 locs (cells + 1) (slots + N') Q (F0 m (pc + 2) ls (.ref q :: rest))) : W p l e R s m args below meth c H locs cells slots Q (F0 m pc ls (.int n :: rest)) := by
  refine va_newa (N' := N') (atype := .int) (ty := .int) (a0 := (N', .inl (fun _ => 0))) hexec hb harr rfl hK hP hD hS hA (fun cA => rfl) hn hN hbytes hcells hslots hdg ?_
  intro q cA H1 hK1 hP1 hD1 hS1
  have e1 := (hK1.2 0 (cI, .int) rfl).2
  have e2 := (hK1.2 (rs.length + 1) (cA, .int) (by simp)).2
  have e3 : cI = cA := Option.some.inj (Eq.trans (Eq.symm (show s.vm.findClass _ = some cI from e1)) (show s.vm.findClass _ = some cA from e2))
  subst e3
  exact kk q H1 hP1 hD1 hS1
end
end
section
/-- the texts of the exceptions that the class throws -/
def strL : List (Nat × String) := [(168, "no such place"), (180, "no such node"), (182, "ticks out of range"), (190, "the alarm can't change"), (51, "a node would depend on itself")]
abbrev eIO : String := "java/lang/IndexOutOfBoundsException"
abbrev eIA : String := "java/lang/IllegalArgumentException"
abbrev eIS : String := "java/lang/IllegalStateException"
abbrev eUp : List String := ["java/lang/RuntimeException", "java/lang/Exception"]
/-- the words of the throws that speak of casts -/
def cstL : List Cond := (vx_atS RX4 170 eIO eUp).filter (fun w => !goodWord w) ++ (vx_atS RX4 53 eIA eUp).filter (fun w => !goodWord w) ++ (vx_atS RX4 192 eIS eUp).filter (fun w => !goodWord w)
theorem cstL_ok : ∀ w ∈ cstL, w.faceAtom = true ∧ w.onTables = true := by decide +kernel
theorem cst_warm {s U : State} (hW : s.WarmedH U.vm) (h : ∀ w ∈ cstL, va_Nw w s) : ∀ w ∈ cstL, va_Nw w U := fun w hw =>
  va_tabs (cstL_ok w hw).2 (rfl : (s.setVm U.vm).vm = U.vm) (Cond.faceAtom_setVm (args := #[]) hW.alike w (cstL_ok w hw).1 (h w hw))
theorem cst_same {u U : State} (hv : u.vm = U.vm) (h : ∀ w ∈ cstL, va_Nw w u) : ∀ w ∈ cstL, va_Nw w U := fun w hw => va_Nw.same (cstL_ok w hw).2 hv (h w hw)
/-- what a throw needs of the start: two statics of Throwable, the texts, which classes are not above which -/
def XB (A : Nat → Prop) (U : State) (H : Heap) : Prop := vx_Zq Bundle.tN "UNASSIGNED_STACK" Bundle.steD A U H ∧ vx_Zq Bundle.tN "SUPPRESSED_SENTINEL" Bundle.listD A U H ∧ (∀ q ∈ strL, ∃ a : Nat, vk_R RX4 q.1 q.2 a U) ∧ va_Nc eIA eIO U ∧ va_Nc eIS eIO U ∧ ∀ w ∈ cstL, va_Nw w U
theorem XB.cast {A : Nat → Prop} {U : State} {H : Heap} (h : XB A U H) {w : Cond} (hw : w ∈ cstL) {args : Array Value} : w.before args U = true := va_Nw.use (cstL_ok w hw).2 (h.2.2.2.2.2 w hw)
def PX (D : va_G) (tys : List (ClassId × FieldType)) (sz : Nat) (w : va_W) (U : State) : Prop := PW D tys sz w U ∧ XB (va_A w sz) U U.heap
theorem PX.blind {av : List Value} {D : va_G} {tys : List (ClassId × FieldType)} {sz : Nat} {w : va_W} : FrameBlind (va_Pc av (PX D tys sz w)) := fun a U g mk q => by
  obtain ⟨q0, q1, q2, q3, q4, q5, q6, q7⟩ := q
  have h1 := PW.blind (av := av) (D := D) (tys := tys) (sz := sz) (w := w) a U g mk ⟨q0, q1⟩
  exact ⟨q0, h1.2, vx_Zq.moved (u := U) (Vm.Alike.refl U.vm) q2, vx_Zq.moved (u := U) (Vm.Alike.refl U.vm) q3, fun z hz => by obtain ⟨y, hy⟩ := q4 z hz; exact ⟨y, vk_R.same (u := U) rfl hy⟩, va_Nc.moved (u := U) (Vm.Alike.refl U.vm) q5, va_Nc.moved (u := U) (Vm.Alike.refl U.vm) q6, cst_same (u := U) rfl q7⟩
theorem PX.give {D : va_G} {tys : List (ClassId × FieldType)} {w : va_W} {s : State} {H : Heap} {locs : List Loc} {A : Nat → Prop} (hP : va_P D vwCl w H) (hK : va_K D vwCl tys s) (hD : va_D A w) (hN : NB s) (hX : XB A s s.heap) (hS : va_S A s.heap H locs) (hF : ∀ q, va_A w H.size q → A q) : ∀ U : State, U.heap = H → s.WarmedH U.vm → PX D tys H.size w U :=
  fun U hU hW => ⟨PW.give hP hK hD hN U hU hW, by
    rw [hU]
    have z : ∀ {C n d : String}, vx_Zq C n d A s s.heap → vx_Zq C n d (va_A w H.size) U H := fun h => vx_Zq.moved hW.alike (vx_Zq.narrow (vx_Zq.kept h hS.2.1) hF)
    exact ⟨z hX.1, z hX.2.1, fun q hq => by obtain ⟨y, hy⟩ := hX.2.2.1 q hq; exact ⟨y, vk_R.warm hW hy⟩, va_Nc.moved hW.alike hX.2.2.2.1, va_Nc.moved hW.alike hX.2.2.2.2.1, cst_warm hW hX.2.2.2.2.2⟩⟩
section
variable {p : Program} {l : Launch} {e : Env} {R : Room} {s : State} {m : MethodId} {args : Array Value} {below : List Frame} {meth : Method} {c : Code} {H : Heap} {locs : List Loc} {cells slots : Nat} {Q : State → Prop}
variable {mc ms : Nat} {A0 : Nat → Prop} {a : Array Value} {pc : Nat} {ls : Array Slot} {st0 rest : List Value} {D : va_G} {tys : List (ClassId × FieldType)}
/-- a call that may throw, and answers an int -/
theorem k_xcalli {S : Type} {post : Int32 → S → Prop} {px : String → Prop} {ws wc wr : va_W} {w1 : S → va_W} (w2 : S → va_W) (hP : va_P D vwCl ws H) (hK : va_K D vwCl tys s) (hD : va_D A0 ws) (hN : NB s) (hX : XB A0 s s.heap) (hS : va_S A0 s.heap H locs) (hA : ∀ q, s.heap.size ≤ q → A0 q)
    (isC isR : List Nat) (hC : isC.map (fun i => ws[i]?) = wc.map some) (hR : isR.map (fun i => ws[i]?) = wr.map some) (hn : va_nd isC = true) (hnr : va_nd isR = true) (hdis : (isR.all fun i => !isC.contains i) = true)
    (perm : List Nat) (hn2 : va_nd perm = true) (hp2 : ∀ u, perm.map (fun i => (wr ++ w1 u)[i]?) = (w2 u).map some) (hpx : perm.map (fun i => (wr ++ wc)[i]?) = ws.map some)
    (run : (∀ U : State, U.heap = H → s.WarmedH U.vm → PX D tys H.size wc U) → vx_Run p l e R s m args below meth c H locs cells slots mc ms (F0 m pc ls st0) rest (va_Qi post (fun u t => QW D tys (va_A wc H.size) (w1 u) t) (va_A wc H.size) a) (vx_X (fun _ : Unit => True) (fun E _ t => px E ∧ QW D tys (va_A wc H.size) wc t) (va_A wc H.size)) (va_A wc H.size))
    (kx : ∀ (E : String) (ce : Cell) (q9 : Addr) (H1 : Heap) (locs1 : List Loc), px E → va_P D vwCl ws H1 → va_D A0 ws → va_S A0 s.heap H1 locs1 → H1[q9]? = some ce → ce.vm = .none → s.vm.findClass E = some ce.cls → vx_W p l e R s m args below meth c H1 locs1 (cells + mc) (slots + ms) Q (F0 m pc ls rest) q9)
    (kk : ∀ (r : Int32) (u : S) (H1 : Heap) (locs1 : List Loc), post r u → va_P D vwCl (w2 u) H1 → va_D A0 (w2 u) → va_S A0 s.heap H1 locs1 → W p l e R s m args below meth c H1 locs1 (cells + mc) (slots + ms) Q (F0 m (pc + 3) ls (.int r :: rest))) : W p l e R s m args below meth c H locs cells slots Q (F0 m pc ls st0) := by
  have hF := va_free (wc := wc) hD hS hA isC hC
  refine vx_calli (run (PX.give (hP.sub isC (pick_of_map hC)) hK (hD.sub isC hn hC) hN hX hS hF)) hS (fun q _ h => hF q h) hF (fun q _ h => hF q h) ?_ ?_
  · intro E ce q9 u t H1 locs1 ht hvm _ hB hz hk1 hS1 h7 h8 h9
    obtain ⟨hw, hP1, hK1, hD1⟩ := hB
    rw [ht] at hP1
    obtain ⟨h1, h2⟩ := k_world (S := Unit) (w1 := fun _ => wc) (w2 := fun _ => ws) hP hD hS hA isC isR hC hR hnr hdis perm hn2 (fun _ => hpx) (u := ()) hk1 hP1 hD1
    exact kx E ce q9 H1 locs1 hw h1 h2 hS1 h7 h8 h9
  · intro r u t H1 locs1 ht hvm hw hB hz hk1 hS1
    obtain ⟨hP1, hK1, hD1⟩ := hB
    rw [ht] at hP1
    obtain ⟨h1, h2⟩ := k_world (w1 := w1) (w2 := w2) hP hD hS hA isC isR hC hR hnr hdis perm hn2 hp2 hk1 hP1 hD1
    exact kk r u H1 locs1 hw h1 h2 hS1
/-- .. and answers nothing -/
theorem k_xcallv {S : Type} {post : S → Prop} {px : String → Prop} {ws wc wr : va_W} {w1 : S → va_W} (w2 : S → va_W) (hP : va_P D vwCl ws H) (hK : va_K D vwCl tys s) (hD : va_D A0 ws) (hN : NB s) (hX : XB A0 s s.heap) (hS : va_S A0 s.heap H locs) (hA : ∀ q, s.heap.size ≤ q → A0 q)
    (isC isR : List Nat) (hC : isC.map (fun i => ws[i]?) = wc.map some) (hR : isR.map (fun i => ws[i]?) = wr.map some) (hn : va_nd isC = true) (hnr : va_nd isR = true) (hdis : (isR.all fun i => !isC.contains i) = true)
    (perm : List Nat) (hn2 : va_nd perm = true) (hp2 : ∀ u, perm.map (fun i => (wr ++ w1 u)[i]?) = (w2 u).map some) (hpx : perm.map (fun i => (wr ++ wc)[i]?) = ws.map some)
    (run : (∀ U : State, U.heap = H → s.WarmedH U.vm → PX D tys H.size wc U) → vx_Run p l e R s m args below meth c H locs cells slots mc ms (F0 m pc ls st0) rest (va_Qv post (fun u t => QW D tys (va_A wc H.size) (w1 u) t) (va_A wc H.size) a) (vx_X (fun _ : Unit => True) (fun E _ t => px E ∧ QW D tys (va_A wc H.size) wc t) (va_A wc H.size)) (va_A wc H.size))
    (kx : ∀ (E : String) (ce : Cell) (q9 : Addr) (H1 : Heap) (locs1 : List Loc), px E → va_P D vwCl ws H1 → va_D A0 ws → va_S A0 s.heap H1 locs1 → H1[q9]? = some ce → ce.vm = .none → s.vm.findClass E = some ce.cls → vx_W p l e R s m args below meth c H1 locs1 (cells + mc) (slots + ms) Q (F0 m pc ls rest) q9)
    (kk : ∀ (u : S) (H1 : Heap) (locs1 : List Loc), post u → va_P D vwCl (w2 u) H1 → va_D A0 (w2 u) → va_S A0 s.heap H1 locs1 → W p l e R s m args below meth c H1 locs1 (cells + mc) (slots + ms) Q (F0 m (pc + 3) ls rest)) : W p l e R s m args below meth c H locs cells slots Q (F0 m pc ls st0) := by
  have hF := va_free (wc := wc) hD hS hA isC hC
  refine vx_callv (run (PX.give (hP.sub isC (pick_of_map hC)) hK (hD.sub isC hn hC) hN hX hS hF)) hS (fun q _ h => hF q h) hF (fun q _ h => hF q h) ?_ ?_
  · intro E ce q9 u t H1 locs1 ht hvm _ hB hz hk1 hS1 h7 h8 h9
    obtain ⟨hw, hP1, hK1, hD1⟩ := hB
    rw [ht] at hP1
    obtain ⟨h1, h2⟩ := k_world (S := Unit) (w1 := fun _ => wc) (w2 := fun _ => ws) hP hD hS hA isC isR hC hR hnr hdis perm hn2 (fun _ => hpx) (u := ()) hk1 hP1 hD1
    exact kx E ce q9 H1 locs1 hw h1 h2 hS1 h7 h8 h9
  · intro u t H1 locs1 ht hvm hw hB hz hk1 hS1
    obtain ⟨hP1, hK1, hD1⟩ := hB
    rw [ht] at hP1
    obtain ⟨h1, h2⟩ := k_world (w1 := w1) (w2 := w2) hP hD hS hA isC isR hC hR hnr hdis perm hn2 hp2 hk1 hP1 hD1
    exact kk u H1 locs1 hw h1 h2 hS1
/-- a method's own throw, its words out of the method's list -/
theorem k_throw {cc : ByteArray} {pc : Nat} {Qc : Array Value → State → Outcome → State → Prop} {px : String → Prop} (hexec : p.tables.exec = Jvm.exec) (hb : c.code = cc) (hl : l.stackTraces = false) {cls text : String} {ik is ic : Nat} {A : Nat → Prop} {ws : va_W} {Ts : List Cond}
    (hts : ∀ w ∈ Ts, w.before args s = true) (hown : s.vm.findClass RX4 = some m.cls) (hcls : Bundle.fit cls = true)
    (hk : Cond.classLink RX4 ik cls ∈ Ts) (hini : Cond.initialized cls ∈ Ts) (hstr : (is, text) ∈ strL)
    (hat : ∀ w ∈ (vx_atS RX4 ic cls ["java/lang/RuntimeException", "java/lang/Exception"]).filter goodWord, w ∈ Ts) (hat2 : ∀ w ∈ (vx_atS RX4 ic cls ["java/lang/RuntimeException", "java/lang/Exception"]).filter (fun w => !goodWord w), w ∈ cstL)
    (hgood : ∀ w ∈ Cond.classLink RX4 ik cls :: Cond.initialized cls :: vx_atS RX4 ic cls ["java/lang/RuntimeException", "java/lang/Exception"], vx_ot w = true)
    (hX : XB A s s.heap) (hP : va_P D vwCl ws H) (hK : va_K D vwCl tys s) (hD : va_D A ws) (hS : va_S A s.heap H locs) (hsize : ls.size = c.maxLocals)
    (d0 : decode cc pc = .ok (.new ik, 3)) (d3 : decode cc (pc + 3) = .ok (.dup, 1)) (d4 : decode cc (pc + 4) = .ok (.ldc is, 2)) (d6 : decode cc (pc + 6) = .ok (.invokespecial ic, 3)) (d9 : decode cc (pc + 9) = .ok (.athrow, 1))
    (hout : ∀ x ∈ c.exceptionTable.toList, covers x (pc + 9) = false) (hRf : 6 ≤ R.frames) (hRl : (rest.map fun v => v.category).sum + 82 ≤ R.locals) (hRc : cells + 1 ≤ R.cells) (hRs : slots + 6 ≤ R.slots) (hlocks : meth.locks = false)
    (hc : cells + 1 ≤ mc) (hs : slots + 6 ≤ ms) (he : px cls) :
    W p l e R s m args below meth c H locs cells slots (vx_MQ below Qc (vx_X (fun _ : Unit => True) (fun E _ t => px E ∧ QW D tys A ws t) A) args s mc ms A) (F0 m pc ls rest) := by
  obtain ⟨sa, hsa⟩ := hX.2.2.1 _ hstr
  refine vx_throwS (names := ["java/lang/RuntimeException", "java/lang/Exception"]) hexec hb hl hown hcls (by decide +kernel) (hts _ hk) (hts _ hini) hsa ?_ hgood hX.1 hX.2.1 hS hsize d0 d3 d4 d6 d9 hout hRf hRl hRc hRs hlocks ?_ hS.2.2 hc hs
  · exact vx_hat (B := cstL) (fun w h => hts w (hat w h)) hat2 (fun w h => hX.cast h)
  · intro t hal hsz hkp
    refine ⟨(), trivial, ⟨he, ?_, va_K.moved hal hK, hD⟩, ?_⟩
    · exact hP.kept (fun k x hx => hkp x.1 ((hP k x hx).lt))
    · exact ⟨Nat.le_trans hS.1 hsz, fun q h1 h2 => (hkp q (Nat.lt_of_lt_of_le h1 hS.1)).trans (hS.2.1 q h1 h2)⟩
/-- not caught: out of the method -/
theorem k_out {pc : Nat} {Qc : Array Value → State → Outcome → State → Prop} {px : String → Prop} {E : String} {ce : Cell} {q9 : Addr} {A : Nat → Prop} {ws : va_W} (hout : ∀ x ∈ c.exceptionTable.toList, covers x pc = false) (hlocks : meth.locks = false)
    (hP : va_P D vwCl ws H) (hK : va_K D vwCl tys s) (hD : va_D A ws) (hS : va_S A s.heap H locs) (hcell : H[q9]? = some ce) (hv : ce.vm = .none) (hcl : s.vm.findClass E = some ce.cls) (hc : cells ≤ mc) (hs : slots ≤ ms) (he : px E) :
    vx_W p l e R s m args below meth c H locs cells slots (vx_MQ below Qc (vx_X (fun _ : Unit => True) (fun E _ t => px E ∧ QW D tys A ws t) A) args s mc ms A) (F0 m pc ls rest) q9 :=
  vx_out hout hlocks hcell hv hcl (fun t ht hal => ⟨(), trivial, ⟨he, by rw [ht]; exact hP, va_K.moved hal hK, hD⟩, hS.F ht⟩) hS.2.2 hc hs
end
section
variable {p : Program} {l : Launch} {e : Env} {R : Room} {s : State} {m : MethodId} {args : Array Value} {below : List Frame} {meth : Method} {c : Code} {H : Heap} {locs : List Loc} {cells slots : Nat} {Q : State → Prop}
variable {mc ms : Nat} {A0 : Nat → Prop} {a : Array Value} {pc : Nat} {ls : Array Slot} {st0 rest : List Value} {D : va_G} {tys : List (ClassId × FieldType)}
/-- a call of a method that catches what it calls -/
theorem k_ycalli {S : Type} {post : Int32 → S → Prop} {ws wc wr : va_W} {w1 : S → va_W} (w2 : S → va_W) (hP : va_P D vwCl ws H) (hK : va_K D vwCl tys s) (hD : va_D A0 ws) (hN : NB s) (hX : XB A0 s s.heap) (hS : va_S A0 s.heap H locs) (hA : ∀ q, s.heap.size ≤ q → A0 q)
    (isC isR : List Nat) (hC : isC.map (fun i => ws[i]?) = wc.map some) (hR : isR.map (fun i => ws[i]?) = wr.map some) (hn : va_nd isC = true) (hnr : va_nd isR = true) (hdis : (isR.all fun i => !isC.contains i) = true)
    (perm : List Nat) (hn2 : va_nd perm = true) (hp2 : ∀ u, perm.map (fun i => (wr ++ w1 u)[i]?) = (w2 u).map some)
    (run : (∀ U : State, U.heap = H → s.WarmedH U.vm → PX D tys H.size wc U) → va_Run p l e R s m args below meth c H locs cells slots mc ms (F0 m pc ls st0) rest (va_Qi post (fun u t => QW D tys (va_A wc H.size) (w1 u) t) (va_A wc H.size) a) (va_A wc H.size))
    (kk : ∀ (r : Int32) (u : S) (H1 : Heap) (locs1 : List Loc), post r u → va_P D vwCl (w2 u) H1 → va_D A0 (w2 u) → va_S A0 s.heap H1 locs1 → W p l e R s m args below meth c H1 locs1 (cells + mc) (slots + ms) Q (F0 m (pc + 3) ls (.int r :: rest))) : W p l e R s m args below meth c H locs cells slots Q (F0 m pc ls st0) := by
  have hF := va_free (wc := wc) hD hS hA isC hC
  refine va_calli (run (PX.give (hP.sub isC (pick_of_map hC)) hK (hD.sub isC hn hC) hN hX hS hF)) hS (fun q _ h => hF q h) hF ?_
  intro r u t H1 locs1 ht hvm hw hB hz hk1 hS1
  obtain ⟨hP1, hK1, hD1⟩ := hB
  rw [ht] at hP1
  obtain ⟨h1, h2⟩ := k_world (w1 := w1) (w2 := w2) hP hD hS hA isC isR hC hR hnr hdis perm hn2 hp2 hk1 hP1 hD1
  exact kk r u H1 locs1 hw h1 h2 hS1
end
/-- the world that a call on the law's script begins with -/
def PS (D : va_G) (tys : List (ClassId × FieldType)) (sz b L : Nat) (xs : AA) (U : State) : Prop := PW D tys sz [] U ∧ b < sz ∧ va_X b L xs U U.heap
theorem PS.blind {av : List Value} {D : va_G} {tys : List (ClassId × FieldType)} {sz b L : Nat} {xs : AA} : FrameBlind (va_Pc av (PS D tys sz b L xs)) := fun a U g mk q => by
  obtain ⟨q0, q1, q2, q3⟩ := q
  have h1 := PW.blind (av := av) (D := D) (tys := tys) (sz := sz) (w := []) a U g mk ⟨q0, q1⟩
  exact ⟨q0, h1.2, q2, va_X.moved (u := U) (Vm.Alike.refl U.vm) q3⟩
end
section
abbrev W_X1 (cI : ClassId) (g0 g1 g2 g3 g4 : Nat) (gn : AA) (gu : AA) (gb : AA) (ga : AA) : va_W := [(g0, .inr (1, [.ref g1, .ref g2, .ref g3, .ref g4])), (g1, .inl (cI, 14, .inl gn)), (g2, .inl (cI, 14, .inl gu)), (g3, .inl (cI, 14, .inl gb)), (g4, .inl (cI, 14, .inl ga))]
abbrev W_X2 (cI : ClassId) (l0 l1 l2 l3 l4 l5 : Nat) (lc : Int32) (lk : AA) (ln : AA) (lt : AA) (ll : AA) (lr : AA) : va_W := [(l0, .inr (2, [.ref l1, .ref l2, .ref l3, .ref l4, .ref l5, .int lc])), (l1, .inl (cI, 300, .inl lk)), (l2, .inl (cI, 300, .inl ln)), (l3, .inl (cI, 300, .inl lt)), (l4, .inl (cI, 300, .inl ll)), (l5, .inl (cI, 14, .inl lr))]
abbrev W_X3 (cI : ClassId) (t0 t1 t2 : Nat) (tw : Int32) (tn : AA) (tt : AA) : va_W := [(t0, .inr (3, [.ref t1, .ref t2, .int tw])), (t1, .inl (cI, 14, .inl tn)), (t2, .inl (cI, 301, .inl tt))]
abbrev W_X4 (cI : ClassId) (x0 g0 g1 g2 g3 g4 l0 l1 l2 l3 l4 l5 t0 t1 t2 : Nat) (xr : Int32) (xt : Int32) (gn : AA) (gu : AA) (gb : AA) (ga : AA) (lc : Int32) (lk : AA) (ln : AA) (lt : AA) (ll : AA) (lr : AA) (tw : Int32) (tn : AA) (tt : AA) : va_W := [(x0, .inr (4, [.ref g0, .ref l0, .ref t0, .int xr, .int xt])), (g0, .inr (1, [.ref g1, .ref g2, .ref g3, .ref g4])), (g1, .inl (cI, 14, .inl gn)), (g2, .inl (cI, 14, .inl gu)), (g3, .inl (cI, 14, .inl gb)), (g4, .inl (cI, 14, .inl ga)), (l0, .inr (2, [.ref l1, .ref l2, .ref l3, .ref l4, .ref l5, .int lc])), (l1, .inl (cI, 300, .inl lk)), (l2, .inl (cI, 300, .inl ln)), (l3, .inl (cI, 300, .inl lt)), (l4, .inl (cI, 300, .inl ll)), (l5, .inl (cI, 14, .inl lr)), (t0, .inr (3, [.ref t1, .ref t2, .int tw])), (t1, .inl (cI, 14, .inl tn)), (t2, .inl (cI, 301, .inl tt))]
abbrev W_X0 (cI : ClassId) (d0 g0 g1 g2 g3 g4 : Nat) (dr : Int32) (dp : Int32) (gn : AA) (gu : AA) (gb : AA) (ga : AA) : va_W := [(d0, .inr (0, [.ref g0, .int dr, .int dp])), (g0, .inr (1, [.ref g1, .ref g2, .ref g3, .ref g4])), (g1, .inl (cI, 14, .inl gn)), (g2, .inl (cI, 14, .inl gu)), (g3, .inl (cI, 14, .inl gb)), (g4, .inl (cI, 14, .inl ga))]
abbrev W_A (cI : ClassId) (k0 : Nat) (kl : AA) : va_W := [(k0, .inl (cI, 14, .inl kl))]
def f_X4_only (a0 : Int32) : Int32 := (1 <<< (a0 &&& 31))
def f_X4_has (a0 : Int32) (a1 : Int32) : Int32 := ((fun (j2 : Int32) => j2) (if (a0 &&& (f_X4_only a1)) = 0 then (0 : Int32) else (1 : Int32)))
def f_X4_nodeAtPlace_L4 (a0 : Int32) (a1 : Int32) : Nat → Int32 → Int32 → Int32
  | 0, _, _ => 0
  | n + 1, v4_2, v4_3 => (if 14 ≤ v4_3 then ((-1) : Int32) else (if (f_X4_has a0 v4_3) = 0 then f_X4_nodeAtPlace_L4 a0 a1 n v4_2 (v4_3 + 1) else (if v4_2 = a1 then v4_3 else f_X4_nodeAtPlace_L4 a0 a1 n (v4_2 + 1) (v4_3 + 1))))
def p_X4_nodeAtPlace_L4 (a0 : Int32) (a1 : Int32) : Nat → Int32 → Int32 → Prop
  | 0, _, _ => False
  | n + 1, v4_2, v4_3 => ((14 ≤ v4_3 → True) ∧ (¬ (14 ≤ v4_3) → (((f_X4_has a0 v4_3) = 0 → p_X4_nodeAtPlace_L4 a0 a1 n v4_2 (v4_3 + 1)) ∧ (¬ ((f_X4_has a0 v4_3) = 0) → ((v4_2 = a1 → True) ∧ (¬ (v4_2 = a1) → p_X4_nodeAtPlace_L4 a0 a1 n (v4_2 + 1) (v4_3 + 1)))))))
def f_X4_nodeAtPlace (a0 : Int32) (a1 : Int32) : Int32 := f_X4_nodeAtPlace_L4 a0 a1 15 (0 : Int32) (0 : Int32)
def p_X4_nodeAtPlace (a0 : Int32) (a1 : Int32) : Prop := p_X4_nodeAtPlace_L4 a0 a1 15 (0 : Int32) (0 : Int32)
def f_J6_bitCount_0f7a4 (a0 : Int32) : Int32 := ((fun (y1_0 : Int32) => ((fun (y2_0 : Int32) => ((fun (y3_0 : Int32) => ((fun (y4_0 : Int32) => ((fun (y5_0 : Int32) => (y5_0 &&& 63)) (y4_0 + (y4_0.toUInt32 >>> ((16 : Int32).toUInt32 &&& Int32.toUInt32 31)).toInt32))) (y3_0 + (y3_0.toUInt32 >>> ((8 : Int32).toUInt32 &&& Int32.toUInt32 31)).toInt32))) ((y2_0 + (y2_0.toUInt32 >>> ((4 : Int32).toUInt32 &&& Int32.toUInt32 31)).toInt32) &&& 252645135))) ((y1_0 &&& 858993459) + ((y1_0.toUInt32 >>> ((2 : Int32).toUInt32 &&& Int32.toUInt32 31)).toInt32 &&& 858993459)))) (a0 - ((a0.toUInt32 >>> ((1 : Int32).toUInt32 &&& Int32.toUInt32 31)).toInt32 &&& 1431655765)))
def f_X1_step_L4 (kl : AA) (a1 : Int32) : Nat → Int32 → Int32 → Int32 × Int32
  | 0, _, _ => (0, 0)
  | n + 1, v4_2, v4_3 => (if 14 ≤ v4_3 then (v4_2, v4_3) else (if (f_X4_has a1 v4_3) = 0 then f_X1_step_L4 kl a1 n v4_2 (v4_3 + 1) else f_X1_step_L4 kl a1 n (v4_2 ||| (kl (v4_3).toNatClampNeg)) (v4_3 + 1)))
def p_X1_step_L4 (kl : AA) (a1 : Int32) : Nat → Int32 → Int32 → Prop
  | 0, _, _ => False
  | n + 1, v4_2, v4_3 => ((14 ≤ v4_3 → True) ∧ (¬ (14 ≤ v4_3) → (((f_X4_has a1 v4_3) = 0 → p_X1_step_L4 kl a1 n v4_2 (v4_3 + 1)) ∧ (¬ ((f_X4_has a1 v4_3) = 0) → (vp_in v4_3 14 ∧ p_X1_step_L4 kl a1 n (v4_2 ||| (kl (v4_3).toNatClampNeg)) (v4_3 + 1))))))
def f_X1_step (kl : AA) (a1 : Int32) : Int32 := (match f_X1_step_L4 kl a1 15 (0 : Int32) (0 : Int32) with | (r1_v4_2, r1_v4_3) => r1_v4_2)
def p_X1_step (kl : AA) (a1 : Int32) : Prop := (p_X1_step_L4 kl a1 15 (0 : Int32) (0 : Int32) ∧ ∀ (r1_v4_2 : Int32) (r1_v4_3 : Int32), f_X1_step_L4 kl a1 15 (0 : Int32) (0 : Int32) = (r1_v4_2, r1_v4_3) → True)
def f_X1_follow_L10 (kl : AA) : Nat → Int32 → Int32 → Int32 → Int32 × Int32 × Int32
  | 0, _, _, _ => (0, 0, 0)
  | n + 1, v10_2, v10_3, v10_4 => (if 14 ≤ v10_4 then (v10_2, v10_3, v10_4) else (if v10_3 = 0 then (v10_2, v10_3, v10_4) else f_X1_follow_L10 kl n (v10_2 ||| (f_X1_step kl v10_3)) (f_X1_step kl v10_3) (v10_4 + 1)))
def p_X1_follow_L10 (kl : AA) : Nat → Int32 → Int32 → Int32 → Prop
  | 0, _, _, _ => False
  | n + 1, v10_2, v10_3, v10_4 => ((14 ≤ v10_4 → True) ∧ (¬ (14 ≤ v10_4) → ((v10_3 = 0 → True) ∧ (¬ (v10_3 = 0) → (p_X1_step kl v10_3 ∧ p_X1_follow_L10 kl n (v10_2 ||| (f_X1_step kl v10_3)) (f_X1_step kl v10_3) (v10_4 + 1))))))
def f_X1_follow (kl : AA) (a1 : Int32) : Int32 := (match f_X1_follow_L10 kl 15 (0 : Int32) (f_X4_only a1) (0 : Int32) with | (r2_v10_2, r2_v10_3, r2_v10_4) => r2_v10_2)
def p_X1_follow (kl : AA) (a1 : Int32) : Prop := (p_X1_follow_L10 kl 15 (0 : Int32) (f_X4_only a1) (0 : Int32) ∧ ∀ (r2_v10_2 : Int32) (r2_v10_3 : Int32) (r2_v10_4 : Int32), f_X1_follow_L10 kl 15 (0 : Int32) (f_X4_only a1) (0 : Int32) = (r2_v10_2, r2_v10_3, r2_v10_4) → True)
def f_X1_followAll_L2 (gn : AA) (gu : AA) : Nat → Int32 → AA → AA → Int32 × AA × AA
  | 0, _, _, _ => (0, (fun _ => 0), (fun _ => 0))
  | n + 1, v2_1, gb_2, ga_2 => (if 14 ≤ v2_1 then (v2_1, gb_2, ga_2) else f_X1_followAll_L2 gn gu n (v2_1 + 1) (upd gb_2 (v2_1).toNatClampNeg (f_X1_follow gn v2_1)) (upd ga_2 (v2_1).toNatClampNeg (f_X1_follow gu v2_1)))
def p_X1_followAll_L2 (gn : AA) (gu : AA) : Nat → Int32 → AA → AA → Prop
  | 0, _, _, _ => False
  | n + 1, v2_1, gb_2, ga_2 => ((14 ≤ v2_1 → True) ∧ (¬ (14 ≤ v2_1) → (p_X1_follow gn v2_1 ∧ (vp_in v2_1 14 ∧ (p_X1_follow gu v2_1 ∧ (vp_in v2_1 14 ∧ p_X1_followAll_L2 gn gu n (v2_1 + 1) (upd gb_2 (v2_1).toNatClampNeg (f_X1_follow gn v2_1)) (upd ga_2 (v2_1).toNatClampNeg (f_X1_follow gu v2_1))))))))
def f_X1_followAll (gn : AA) (gu : AA) (gb : AA) (ga : AA) : AA × AA := (match f_X1_followAll_L2 gn gu 15 (0 : Int32) gb ga with | (r1_v2_1, r1_gb_2, r1_ga_2) => (r1_gb_2, r1_ga_2))
def p_X1_followAll (gn : AA) (gu : AA) (gb : AA) (ga : AA) : Prop := (p_X1_followAll_L2 gn gu 15 (0 : Int32) gb ga ∧ ∀ (r1_v2_1 : Int32) (r1_gb_2 : AA) (r1_ga_2 : AA), f_X1_followAll_L2 gn gu 15 (0 : Int32) gb ga = (r1_v2_1, r1_gb_2, r1_ga_2) → True)
def f_X1_needed (gn : AA) (a1 : Int32) : Int32 := (gn (a1).toNatClampNeg)
def p_X1_needed (a1 : Int32) : Prop := (vp_in a1 14 ∧ True)
def f_X1_users (gu : AA) (a1 : Int32) : Int32 := (gu (a1).toNatClampNeg)
def p_X1_users (a1 : Int32) : Prop := (vp_in a1 14 ∧ True)
def f_X1_below (gb : AA) (a1 : Int32) : Int32 := (gb (a1).toNatClampNeg)
def p_X1_below (a1 : Int32) : Prop := (vp_in a1 14 ∧ True)
def f_X1_above (ga : AA) (a1 : Int32) : Int32 := (ga (a1).toNatClampNeg)
def p_X1_above (a1 : Int32) : Prop := (vp_in a1 14 ∧ True)
def f_X1_explainersOf (gb : AA) (a1 : Int32) : Int32 := ((f_X4_only a1) ||| (gb (a1).toNatClampNeg))
def p_X1_explainersOf (a1 : Int32) : Prop := (vp_in a1 14 ∧ True)
def f_X1_explainedBy (ga : AA) (a1 : Int32) : Int32 := ((f_X4_only a1) ||| (ga (a1).toNatClampNeg))
def p_X1_explainedBy (a1 : Int32) : Prop := (vp_in a1 14 ∧ True)
def f_X1_link (gn : AA) (gu : AA) (gb : AA) (ga : AA) (a1 : Int32) (a2 : Int32) : Int32 × AA × AA × AA × AA := (if (f_X4_has (gn (a1).toNatClampNeg) a2) = 0 then (match f_X1_followAll (upd gn (a1).toNatClampNeg ((gn (a1).toNatClampNeg) ||| (f_X4_only a2))) (upd gu (a2).toNatClampNeg ((gu (a2).toNatClampNeg) ||| (f_X4_only a1))) gb ga with | (u10_0, u10_1) => ((1 : Int32), (upd gn (a1).toNatClampNeg ((gn (a1).toNatClampNeg) ||| (f_X4_only a2))), (upd gu (a2).toNatClampNeg ((gu (a2).toNatClampNeg) ||| (f_X4_only a1))), u10_0, u10_1)) else ((0 : Int32), gn, gu, gb, ga))
def p_X1_link (gn : AA) (gu : AA) (gb : AA) (ga : AA) (a1 : Int32) (a2 : Int32) : Prop := (vp_in a1 14 ∧ (((f_X4_has (gn (a1).toNatClampNeg) a2) = 0 → (vp_in a1 14 ∧ (vp_in a1 14 ∧ (vp_in a2 14 ∧ (vp_in a2 14 ∧ (p_X1_followAll (upd gn (a1).toNatClampNeg ((gn (a1).toNatClampNeg) ||| (f_X4_only a2))) (upd gu (a2).toNatClampNeg ((gu (a2).toNatClampNeg) ||| (f_X4_only a1))) gb ga ∧ ∀ (u10_0 : AA) (u10_1 : AA), f_X1_followAll (upd gn (a1).toNatClampNeg ((gn (a1).toNatClampNeg) ||| (f_X4_only a2))) (upd gu (a2).toNatClampNeg ((gu (a2).toNatClampNeg) ||| (f_X4_only a1))) gb ga = (u10_0, u10_1) → True)))))) ∧ (¬ ((f_X4_has (gn (a1).toNatClampNeg) a2) = 0) → True)))
def f_X1_unlink (gn : AA) (gu : AA) (gb : AA) (ga : AA) (a1 : Int32) (a2 : Int32) : Int32 × AA × AA × AA × AA := (if (f_X4_has (gn (a1).toNatClampNeg) a2) = 0 then ((0 : Int32), gn, gu, gb, ga) else (match f_X1_followAll (upd gn (a1).toNatClampNeg ((gn (a1).toNatClampNeg) &&& ((f_X4_only a2) ^^^ (-1)))) (upd gu (a2).toNatClampNeg ((gu (a2).toNatClampNeg) &&& ((f_X4_only a1) ^^^ (-1)))) gb ga with | (u10_0, u10_1) => ((1 : Int32), (upd gn (a1).toNatClampNeg ((gn (a1).toNatClampNeg) &&& ((f_X4_only a2) ^^^ (-1)))), (upd gu (a2).toNatClampNeg ((gu (a2).toNatClampNeg) &&& ((f_X4_only a1) ^^^ (-1)))), u10_0, u10_1)))
def p_X1_unlink (gn : AA) (gu : AA) (gb : AA) (ga : AA) (a1 : Int32) (a2 : Int32) : Prop := (vp_in a1 14 ∧ (((f_X4_has (gn (a1).toNatClampNeg) a2) = 0 → True) ∧ (¬ ((f_X4_has (gn (a1).toNatClampNeg) a2) = 0) → (vp_in a1 14 ∧ (vp_in a1 14 ∧ (vp_in a2 14 ∧ (vp_in a2 14 ∧ (p_X1_followAll (upd gn (a1).toNatClampNeg ((gn (a1).toNatClampNeg) &&& ((f_X4_only a2) ^^^ (-1)))) (upd gu (a2).toNatClampNeg ((gu (a2).toNatClampNeg) &&& ((f_X4_only a1) ^^^ (-1)))) gb ga ∧ ∀ (u10_0 : AA) (u10_1 : AA), f_X1_followAll (upd gn (a1).toNatClampNeg ((gn (a1).toNatClampNeg) &&& ((f_X4_only a2) ^^^ (-1)))) (upd gu (a2).toNatClampNeg ((gu (a2).toNatClampNeg) &&& ((f_X4_only a1) ^^^ (-1)))) gb ga = (u10_0, u10_1) → True))))))))
def f_X1_longestWayDown_L14 (gn : AA) : Nat → Int32 → Int32 → Int32 × Int32
  | 0, _, _ => (0, 0)
  | n + 1, v14_2, v14_3 => (if v14_3 = 0 then (v14_2, v14_3) else (if 14 ≤ v14_2 then (v14_2, v14_3) else f_X1_longestWayDown_L14 gn n (v14_2 + 1) (f_X1_step gn v14_3)))
def p_X1_longestWayDown_L14 (gn : AA) : Nat → Int32 → Int32 → Prop
  | 0, _, _ => False
  | n + 1, v14_2, v14_3 => ((v14_3 = 0 → True) ∧ (¬ (v14_3 = 0) → ((14 ≤ v14_2 → True) ∧ (¬ (14 ≤ v14_2) → (p_X1_step gn v14_3 ∧ p_X1_longestWayDown_L14 gn n (v14_2 + 1) (f_X1_step gn v14_3))))))
def f_X1_longestWayDown (gn : AA) (a1 : Int32) : Int32 := (match f_X1_longestWayDown_L14 gn 15 (0 : Int32) (f_X1_step gn (f_X4_only a1)) with | (r3_v14_2, r3_v14_3) => r3_v14_2)
def p_X1_longestWayDown (gn : AA) (a1 : Int32) : Prop := (p_X1_step gn (f_X4_only a1) ∧ (p_X1_longestWayDown_L14 gn 15 (0 : Int32) (f_X1_step gn (f_X4_only a1)) ∧ ∀ (r3_v14_2 : Int32) (r3_v14_3 : Int32), f_X1_longestWayDown_L14 gn 15 (0 : Int32) (f_X1_step gn (f_X4_only a1)) = (r3_v14_2, r3_v14_3) → True))
def f_X1_init  : AA × AA × AA × AA := ((fun _ => 0), (fun _ => 0), (fun _ => 0), (fun _ => 0))
def f_X2_isFull (lc : Int32) : Int32 := ((fun (j1 : Int32) => j1) (if lc < 300 then (0 : Int32) else (1 : Int32)))
def f_X2_count (lc : Int32) : Int32 := lc
def f_X2_add (lc : Int32) (lk : AA) (ln : AA) (lt : AA) (ll : AA) (a1 : Int32) (a2 : Int32) (a3 : Int32) (a4 : Int32) : Int32 × AA × AA × AA × AA := ((lc + 1), (upd lk (lc).toNatClampNeg a1), (upd ln (lc).toNatClampNeg a2), (upd lt (lc).toNatClampNeg a3), (upd ll (lc).toNatClampNeg a4))
def p_X2_add (lc : Int32) : Prop := (vp_in lc 300 ∧ (vp_in lc 300 ∧ (vp_in lc 300 ∧ (vp_in lc 300 ∧ True))))
def f_X2_addRaise (lc : Int32) (lk : AA) (ln : AA) (lt : AA) (ll : AA) (lr : AA) (a1 : Int32) (a2 : Int32) : Int32 × AA × AA × AA × AA × AA := (match f_X2_add lc lk ln lt ll (0 : Int32) a1 a2 ((-1) : Int32) with | (u2_0, u2_1, u2_2, u2_3, u2_4) => (u2_0, u2_1, u2_2, u2_3, u2_4, (upd lr (a1).toNatClampNeg a2)))
def p_X2_addRaise (lc : Int32) (lk : AA) (ln : AA) (lt : AA) (ll : AA) (a1 : Int32) (a2 : Int32) : Prop := (vp_in a1 14 ∧ (p_X2_add lc ∧ ∀ (u2_0 : Int32) (u2_1 : AA) (u2_2 : AA) (u2_3 : AA) (u2_4 : AA), f_X2_add lc lk ln lt ll (0 : Int32) a1 a2 ((-1) : Int32) = (u2_0, u2_1, u2_2, u2_3, u2_4) → True))
def f_X2_addClear (lc : Int32) (lk : AA) (ln : AA) (lt : AA) (ll : AA) (lr : AA) (a1 : Int32) (a2 : Int32) : Int32 × AA × AA × AA × AA := (match f_X2_add lc lk ln lt ll (1 : Int32) a1 a2 (a2 - (lr (a1).toNatClampNeg)) with | (u2_0, u2_1, u2_2, u2_3, u2_4) => (u2_0, u2_1, u2_2, u2_3, u2_4))
def p_X2_addClear (lc : Int32) (lk : AA) (ln : AA) (lt : AA) (ll : AA) (lr : AA) (a1 : Int32) (a2 : Int32) : Prop := (vp_in a1 14 ∧ (p_X2_add lc ∧ ∀ (u2_0 : Int32) (u2_1 : AA) (u2_2 : AA) (u2_3 : AA) (u2_4 : AA), f_X2_add lc lk ln lt ll (1 : Int32) a1 a2 (a2 - (lr (a1).toNatClampNeg)) = (u2_0, u2_1, u2_2, u2_3, u2_4) → True))
def f_X2_init  : AA × AA × AA × AA × AA := ((fun _ => 0), (fun _ => 0), (fun _ => 0), (fun _ => 0), (fun _ => 0))
def f_X3_isUsed (tw : Int32) (a1 : Int32) : Int32 := ((fun (j1 : Int32) => j1) (if a1 < 1 then (0 : Int32) else (if tw < a1 then (0 : Int32) else (if 301 ≤ a1 then (0 : Int32) else (1 : Int32)))))
def f_X3_numberOf (tn : AA) (a1 : Int32) : Int32 := (tn (a1).toNatClampNeg)
def p_X3_numberOf (a1 : Int32) : Prop := (vp_in a1 14 ∧ True)
def f_X3_sizeOf_L14 (tn : AA) (a1 : Int32) : Nat → Int32 → Int32 → Int32 × Int32
  | 0, _, _ => (0, 0)
  | n + 1, v14_2, v14_3 => (if 14 ≤ v14_3 then (v14_2, v14_3) else (if (tn (v14_3).toNatClampNeg) = a1 then f_X3_sizeOf_L14 tn a1 n (v14_2 + 1) (v14_3 + 1) else f_X3_sizeOf_L14 tn a1 n v14_2 (v14_3 + 1)))
def p_X3_sizeOf_L14 (tn : AA) (a1 : Int32) : Nat → Int32 → Int32 → Prop
  | 0, _, _ => False
  | n + 1, v14_2, v14_3 => ((14 ≤ v14_3 → True) ∧ (¬ (14 ≤ v14_3) → (vp_in v14_3 14 ∧ (((tn (v14_3).toNatClampNeg) = a1 → p_X3_sizeOf_L14 tn a1 n (v14_2 + 1) (v14_3 + 1)) ∧ (¬ ((tn (v14_3).toNatClampNeg) = a1) → p_X3_sizeOf_L14 tn a1 n v14_2 (v14_3 + 1))))))
def f_X3_sizeOf (tw : Int32) (tn : AA) (a1 : Int32) : Int32 := (if (f_X3_isUsed tw a1) = 0 then (0 : Int32) else (match f_X3_sizeOf_L14 tn a1 15 (0 : Int32) (0 : Int32) with | (r3_v14_2, r3_v14_3) => r3_v14_2))
def p_X3_sizeOf (tw : Int32) (tn : AA) (a1 : Int32) : Prop := (((f_X3_isUsed tw a1) = 0 → True) ∧ (¬ ((f_X3_isUsed tw a1) = 0) → (p_X3_sizeOf_L14 tn a1 15 (0 : Int32) (0 : Int32) ∧ ∀ (r3_v14_2 : Int32) (r3_v14_3 : Int32), f_X3_sizeOf_L14 tn a1 15 (0 : Int32) (0 : Int32) = (r3_v14_2, r3_v14_3) → True)))
def f_X3_leave (tw : Int32) (tn : AA) (a1 : Int32) : Int32 × AA := ((f_X3_sizeOf tw (upd tn (a1).toNatClampNeg (-1)) (tn (a1).toNatClampNeg)), (upd tn (a1).toNatClampNeg (-1)))
def p_X3_leave (tw : Int32) (tn : AA) (a1 : Int32) : Prop := (vp_in a1 14 ∧ (vp_in a1 14 ∧ (p_X3_sizeOf tw (upd tn (a1).toNatClampNeg (-1)) (tn (a1).toNatClampNeg) ∧ True)))
def f_X3_merge_L2 (a1 : Int32) (a2 : Int32) : Nat → Int32 → AA → Int32 × AA
  | 0, _, _ => (0, (fun _ => 0))
  | n + 1, v2_3, tn_2 => (if 14 ≤ v2_3 then (v2_3, tn_2) else (if (tn_2 (v2_3).toNatClampNeg) = a1 then f_X3_merge_L2 a1 a2 n (v2_3 + 1) (upd tn_2 (v2_3).toNatClampNeg a2) else f_X3_merge_L2 a1 a2 n (v2_3 + 1) tn_2))
def p_X3_merge_L2 (a1 : Int32) (a2 : Int32) : Nat → Int32 → AA → Prop
  | 0, _, _ => False
  | n + 1, v2_3, tn_2 => ((14 ≤ v2_3 → True) ∧ (¬ (14 ≤ v2_3) → (vp_in v2_3 14 ∧ (((tn_2 (v2_3).toNatClampNeg) = a1 → (vp_in v2_3 14 ∧ p_X3_merge_L2 a1 a2 n (v2_3 + 1) (upd tn_2 (v2_3).toNatClampNeg a2))) ∧ (¬ ((tn_2 (v2_3).toNatClampNeg) = a1) → p_X3_merge_L2 a1 a2 n (v2_3 + 1) tn_2)))))
def f_X3_merge (tw : Int32) (tn : AA) (tt : AA) (a1 : Int32) (a2 : Int32) : AA × AA := (match f_X3_merge_L2 a1 a2 15 (0 : Int32) tn with | (r1_v2_3, r1_tn_2) => (if (f_X3_isUsed tw a1) = 0 then (r1_tn_2, tt) else (r1_tn_2, (upd tt (a1).toNatClampNeg a2))))
def p_X3_merge (tw : Int32) (tn : AA) (a1 : Int32) (a2 : Int32) : Prop := (p_X3_merge_L2 a1 a2 15 (0 : Int32) tn ∧ ∀ (r1_v2_3 : Int32) (r1_tn_2 : AA), f_X3_merge_L2 a1 a2 15 (0 : Int32) tn = (r1_v2_3, r1_tn_2) → (((f_X3_isUsed tw a1) = 0 → True) ∧ (¬ ((f_X3_isUsed tw a1) = 0) → (vp_in a1 301 ∧ True))))
def f_X3_unite_L7 (tn : AA) (a1 : Int32) : Nat → Int32 → Int32 → Int32 × Int32
  | 0, _, _ => (0, 0)
  | n + 1, v7_2, v7_3 => (if 14 ≤ v7_3 then (v7_2, v7_3) else (if (f_X4_has a1 v7_3) = 0 then f_X3_unite_L7 tn a1 n v7_2 (v7_3 + 1) else ((fun (y6_2 : Int32) => f_X3_unite_L7 tn a1 n y6_2 (v7_3 + 1)) (if (tn (v7_3).toNatClampNeg) < v7_2 then (tn (v7_3).toNatClampNeg) else v7_2))))
def p_X3_unite_L7 (tn : AA) (a1 : Int32) : Nat → Int32 → Int32 → Prop
  | 0, _, _ => False
  | n + 1, v7_2, v7_3 => ((14 ≤ v7_3 → True) ∧ (¬ (14 ≤ v7_3) → (((f_X4_has a1 v7_3) = 0 → p_X3_unite_L7 tn a1 n v7_2 (v7_3 + 1)) ∧ (¬ ((f_X4_has a1 v7_3) = 0) → (vp_in v7_3 14 ∧ (∀ (y6_2 : Int32), (if (tn (v7_3).toNatClampNeg) < v7_2 then (tn (v7_3).toNatClampNeg) else v7_2) = y6_2 → p_X3_unite_L7 tn a1 n y6_2 (v7_3 + 1)))))))
def f_X3_unite_L40 (tw : Int32) (a1 : Int32) (r1_v7_2 : Int32) : Nat → Int32 → AA → AA → Int32 × AA × AA
  | 0, _, _, _ => (0, (fun _ => 0), (fun _ => 0))
  | n + 1, v40_3, tn_40, tt_40 => (if 14 ≤ v40_3 then (v40_3, tn_40, tt_40) else (if (f_X4_has a1 v40_3) = 0 then f_X3_unite_L40 tw a1 r1_v7_2 n (v40_3 + 1) tn_40 tt_40 else (if (tn_40 (v40_3).toNatClampNeg) = r1_v7_2 then f_X3_unite_L40 tw a1 r1_v7_2 n (v40_3 + 1) tn_40 tt_40 else (match f_X3_merge tw tn_40 tt_40 (tn_40 (v40_3).toNatClampNeg) r1_v7_2 with | (u14_0, u14_1) => f_X3_unite_L40 tw a1 r1_v7_2 n (v40_3 + 1) u14_0 u14_1))))
def p_X3_unite_L40 (tw : Int32) (a1 : Int32) (r1_v7_2 : Int32) : Nat → Int32 → AA → AA → Prop
  | 0, _, _, _ => False
  | n + 1, v40_3, tn_40, tt_40 => ((14 ≤ v40_3 → True) ∧ (¬ (14 ≤ v40_3) → (((f_X4_has a1 v40_3) = 0 → p_X3_unite_L40 tw a1 r1_v7_2 n (v40_3 + 1) tn_40 tt_40) ∧ (¬ ((f_X4_has a1 v40_3) = 0) → (vp_in v40_3 14 ∧ (((tn_40 (v40_3).toNatClampNeg) = r1_v7_2 → p_X3_unite_L40 tw a1 r1_v7_2 n (v40_3 + 1) tn_40 tt_40) ∧ (¬ ((tn_40 (v40_3).toNatClampNeg) = r1_v7_2) → (vp_in v40_3 14 ∧ (p_X3_merge tw tn_40 (tn_40 (v40_3).toNatClampNeg) r1_v7_2 ∧ ∀ (u14_0 : AA) (u14_1 : AA), f_X3_merge tw tn_40 tt_40 (tn_40 (v40_3).toNatClampNeg) r1_v7_2 = (u14_0, u14_1) → p_X3_unite_L40 tw a1 r1_v7_2 n (v40_3 + 1) u14_0 u14_1)))))))))
def f_X3_unite (tw : Int32) (tn : AA) (tt : AA) (a1 : Int32) : Int32 × AA × AA := (match f_X3_unite_L7 tn a1 15 tw (0 : Int32) with | (r1_v7_2, r1_v7_3) => (match f_X3_unite_L40 tw a1 r1_v7_2 15 (0 : Int32) tn tt with | (r7_v40_3, r7_tn_40, r7_tt_40) => (r1_v7_2, r7_tn_40, r7_tt_40)))
def p_X3_unite (tw : Int32) (tn : AA) (tt : AA) (a1 : Int32) : Prop := (p_X3_unite_L7 tn a1 15 tw (0 : Int32) ∧ ∀ (r1_v7_2 : Int32) (r1_v7_3 : Int32), f_X3_unite_L7 tn a1 15 tw (0 : Int32) = (r1_v7_2, r1_v7_3) → (p_X3_unite_L40 tw a1 r1_v7_2 15 (0 : Int32) tn tt ∧ ∀ (r7_v40_3 : Int32) (r7_tn_40 : AA) (r7_tt_40 : AA), f_X3_unite_L40 tw a1 r1_v7_2 15 (0 : Int32) tn tt = (r7_v40_3, r7_tn_40, r7_tt_40) → True))
def f_X3_join (tw : Int32) (tn : AA) (tt : AA) (a1 : Int32) (a2 : Int32) : Int32 × Int32 × AA × AA := (if a2 = 0 then (((upd tn (a1).toNatClampNeg (tw + 1)) (a1).toNatClampNeg), (tw + 1), (upd tn (a1).toNatClampNeg (tw + 1)), tt) else (match f_X3_unite tw tn tt a2 with | (r2, u2_0, u2_1) => (((upd u2_0 (a1).toNatClampNeg r2) (a1).toNatClampNeg), tw, (upd u2_0 (a1).toNatClampNeg r2), u2_1)))
def p_X3_join (tw : Int32) (tn : AA) (tt : AA) (a1 : Int32) (a2 : Int32) : Prop := ((a2 = 0 → (vp_in a1 14 ∧ (vp_in a1 14 ∧ True))) ∧ (¬ (a2 = 0) → (p_X3_unite tw tn tt a2 ∧ ∀ (r2 : Int32) (u2_0 : AA) (u2_1 : AA), f_X3_unite tw tn tt a2 = (r2, u2_0, u2_1) → (vp_in a1 14 ∧ (vp_in a1 14 ∧ True)))))
def f_X3_init_L28  : Nat → Int32 → AA → Int32 × AA
  | 0, _, _ => (0, (fun _ => 0))
  | n + 1, v28_1, c_q7_28 => (if 14 ≤ v28_1 then (v28_1, c_q7_28) else f_X3_init_L28 n (v28_1 + 1) (upd c_q7_28 (v28_1).toNatClampNeg (-1)))
def p_X3_init_L28  : Nat → Int32 → AA → Prop
  | 0, _, _ => False
  | n + 1, v28_1, c_q7_28 => ((14 ≤ v28_1 → True) ∧ (¬ (14 ≤ v28_1) → (vp_in v28_1 14 ∧ p_X3_init_L28 n (v28_1 + 1) (upd c_q7_28 (v28_1).toNatClampNeg (-1)))))
def f_X3_init_L49  : Nat → Int32 → AA → Int32 × AA
  | 0, _, _ => (0, (fun _ => 0))
  | n + 1, v49_1, c_q16_49 => (if 300 < v49_1 then (v49_1, c_q16_49) else f_X3_init_L49 n (v49_1 + 1) (upd c_q16_49 (v49_1).toNatClampNeg (-1)))
def p_X3_init_L49  : Nat → Int32 → AA → Prop
  | 0, _, _ => False
  | n + 1, v49_1, c_q16_49 => ((300 < v49_1 → True) ∧ (¬ (300 < v49_1) → (vp_in v49_1 301 ∧ p_X3_init_L49 n (v49_1 + 1) (upd c_q16_49 (v49_1).toNatClampNeg (-1)))))
def f_X3_init  : AA × AA := (match f_X3_init_L28 15 (0 : Int32) (fun _ => 0) with | (r1_v28_1, r1_c_q7_28) => (match f_X3_init_L49 302 (0 : Int32) (fun _ => 0) with | (r4_v49_1, r4_c_q16_49) => (r1_c_q7_28, r4_c_q16_49)))
def p_X3_init  : Prop := (p_X3_init_L28 15 (0 : Int32) (fun _ => 0) ∧ ∀ (r1_v28_1 : Int32) (r1_c_q7_28 : AA), f_X3_init_L28 15 (0 : Int32) (fun _ => 0) = (r1_v28_1, r1_c_q7_28) → (p_X3_init_L49 302 (0 : Int32) (fun _ => 0) ∧ ∀ (r4_v49_1 : Int32) (r4_c_q16_49 : AA), f_X3_init_L49 302 (0 : Int32) (fun _ => 0) = (r4_v49_1, r4_c_q16_49) → True))
def f_X0_plausibleOf_L4 (gu : AA) (a1 : Int32) : Nat → Int32 → Int32 → Int32 × Int32
  | 0, _, _ => (0, 0)
  | n + 1, v4_2, v4_3 => (if 14 ≤ v4_3 then (v4_2, v4_3) else (if (f_X1_users gu v4_3) = 0 then f_X0_plausibleOf_L4 gu a1 n v4_2 (v4_3 + 1) else (if ((f_X1_users gu v4_3) &&& (a1 ^^^ (-1))) = 0 then f_X0_plausibleOf_L4 gu a1 n (v4_2 ||| (f_X4_only v4_3)) (v4_3 + 1) else f_X0_plausibleOf_L4 gu a1 n v4_2 (v4_3 + 1))))
def p_X0_plausibleOf_L4 (gu : AA) (a1 : Int32) : Nat → Int32 → Int32 → Prop
  | 0, _, _ => False
  | n + 1, v4_2, v4_3 => ((14 ≤ v4_3 → True) ∧ (¬ (14 ≤ v4_3) → (p_X1_users v4_3 ∧ (((f_X1_users gu v4_3) = 0 → p_X0_plausibleOf_L4 gu a1 n v4_2 (v4_3 + 1)) ∧ (¬ ((f_X1_users gu v4_3) = 0) → ((((f_X1_users gu v4_3) &&& (a1 ^^^ (-1))) = 0 → p_X0_plausibleOf_L4 gu a1 n (v4_2 ||| (f_X4_only v4_3)) (v4_3 + 1)) ∧ (¬ (((f_X1_users gu v4_3) &&& (a1 ^^^ (-1))) = 0) → p_X0_plausibleOf_L4 gu a1 n v4_2 (v4_3 + 1))))))))
def f_X0_plausibleOf (gu : AA) (a1 : Int32) : Int32 := (match f_X0_plausibleOf_L4 gu a1 15 a1 (0 : Int32) with | (r1_v4_2, r1_v4_3) => r1_v4_2)
def p_X0_plausibleOf (gu : AA) (a1 : Int32) : Prop := (p_X0_plausibleOf_L4 gu a1 15 a1 (0 : Int32) ∧ ∀ (r1_v4_2 : Int32) (r1_v4_3 : Int32), f_X0_plausibleOf_L4 gu a1 15 a1 (0 : Int32) = (r1_v4_2, r1_v4_3) → True)
def f_X0_init (gu : AA) (a2 : Int32) : Int32 × Int32 := (a2, (f_X0_plausibleOf gu a2))
def p_X0_init (gu : AA) (a2 : Int32) : Prop := (p_X0_plausibleOf gu a2 ∧ True)
def f_X0_plausibleNodes (dp : Int32) : Int32 := dp
def f_X0_isBetter (dr : Int32) (a1 : Int32) (a2 : Int32) : Int32 := (if (f_J6_bitCount_0f7a4 a1) = (f_J6_bitCount_0f7a4 a2) then (if (f_J6_bitCount_0f7a4 (a1 &&& dr)) = (f_J6_bitCount_0f7a4 (a2 &&& dr)) then ((fun (j8 : Int32) => j8) (if (f_X4_nodeAtPlace (a1 ^^^ a2) (0 : Int32)) = (-1) then (0 : Int32) else (if (f_X4_has a1 (f_X4_nodeAtPlace (a1 ^^^ a2) (0 : Int32))) = 0 then (0 : Int32) else (1 : Int32)))) else ((fun (j12 : Int32) => j12) (if (f_J6_bitCount_0f7a4 (a1 &&& dr)) ≤ (f_J6_bitCount_0f7a4 (a2 &&& dr)) then (0 : Int32) else (1 : Int32)))) else ((fun (j14 : Int32) => j14) (if (f_J6_bitCount_0f7a4 a2) ≤ (f_J6_bitCount_0f7a4 a1) then (0 : Int32) else (1 : Int32))))
def p_X0_isBetter (dr : Int32) (a1 : Int32) (a2 : Int32) : Prop := (((f_J6_bitCount_0f7a4 a1) = (f_J6_bitCount_0f7a4 a2) → (((f_J6_bitCount_0f7a4 (a1 &&& dr)) = (f_J6_bitCount_0f7a4 (a2 &&& dr)) → (p_X4_nodeAtPlace (a1 ^^^ a2) (0 : Int32) ∧ ((((f_X4_nodeAtPlace (a1 ^^^ a2) (0 : Int32)) = (-1) → True) ∧ (¬ ((f_X4_nodeAtPlace (a1 ^^^ a2) (0 : Int32)) = (-1)) → (((f_X4_has a1 (f_X4_nodeAtPlace (a1 ^^^ a2) (0 : Int32))) = 0 → True) ∧ (¬ ((f_X4_has a1 (f_X4_nodeAtPlace (a1 ^^^ a2) (0 : Int32))) = 0) → True)))) ∧ ∀ (j8 : Int32), (if (f_X4_nodeAtPlace (a1 ^^^ a2) (0 : Int32)) = (-1) then (0 : Int32) else (if (f_X4_has a1 (f_X4_nodeAtPlace (a1 ^^^ a2) (0 : Int32))) = 0 then (0 : Int32) else (1 : Int32))) = j8 → True))) ∧ (¬ ((f_J6_bitCount_0f7a4 (a1 &&& dr)) = (f_J6_bitCount_0f7a4 (a2 &&& dr))) → ((((f_J6_bitCount_0f7a4 (a1 &&& dr)) ≤ (f_J6_bitCount_0f7a4 (a2 &&& dr)) → True) ∧ (¬ ((f_J6_bitCount_0f7a4 (a1 &&& dr)) ≤ (f_J6_bitCount_0f7a4 (a2 &&& dr))) → True)) ∧ ∀ (j12 : Int32), (if (f_J6_bitCount_0f7a4 (a1 &&& dr)) ≤ (f_J6_bitCount_0f7a4 (a2 &&& dr)) then (0 : Int32) else (1 : Int32)) = j12 → True)))) ∧ (¬ ((f_J6_bitCount_0f7a4 a1) = (f_J6_bitCount_0f7a4 a2)) → ((((f_J6_bitCount_0f7a4 a2) ≤ (f_J6_bitCount_0f7a4 a1) → True) ∧ (¬ ((f_J6_bitCount_0f7a4 a2) ≤ (f_J6_bitCount_0f7a4 a1)) → True)) ∧ ∀ (j14 : Int32), (if (f_J6_bitCount_0f7a4 a2) ≤ (f_J6_bitCount_0f7a4 a1) then (0 : Int32) else (1 : Int32)) = j14 → True)))
def f_X0_explainsAll_L2 (dr : Int32) (gb : AA) (a1 : Int32) : Nat → Int32 → Int32
  | 0, _ => 0
  | n + 1, v2_2 => (if 14 ≤ v2_2 then (1 : Int32) else (if (f_X4_has dr v2_2) = 0 then f_X0_explainsAll_L2 dr gb a1 n (v2_2 + 1) else (if ((f_X1_explainersOf gb v2_2) &&& a1) = 0 then (0 : Int32) else f_X0_explainsAll_L2 dr gb a1 n (v2_2 + 1))))
def p_X0_explainsAll_L2 (dr : Int32) (gb : AA) (a1 : Int32) : Nat → Int32 → Prop
  | 0, _ => False
  | n + 1, v2_2 => ((14 ≤ v2_2 → True) ∧ (¬ (14 ≤ v2_2) → (((f_X4_has dr v2_2) = 0 → p_X0_explainsAll_L2 dr gb a1 n (v2_2 + 1)) ∧ (¬ ((f_X4_has dr v2_2) = 0) → (p_X1_explainersOf v2_2 ∧ ((((f_X1_explainersOf gb v2_2) &&& a1) = 0 → True) ∧ (¬ (((f_X1_explainersOf gb v2_2) &&& a1) = 0) → p_X0_explainsAll_L2 dr gb a1 n (v2_2 + 1))))))))
def f_X0_explainsAll (dr : Int32) (gb : AA) (a1 : Int32) : Int32 := f_X0_explainsAll_L2 dr gb a1 15 (0 : Int32)
def p_X0_explainsAll (dr : Int32) (gb : AA) (a1 : Int32) : Prop := p_X0_explainsAll_L2 dr gb a1 15 (0 : Int32)
def f_X0_search_L55 (gb : AA) (ga : AA) (a1 : Int32) (a2 : Int32) (a3 : Int32) (a4 : Int32) (rcf : Int32 → Int32 → Int32 → Int32 → Int32 → Int32) : Nat → Int32 → Int32 → Int32 → Int32 × Int32 × Int32
  | 0, _, _, _ => (0, 0, 0)
  | n + 1, v55_7, v55_8, v55_10 => (if 14 ≤ v55_10 then (v55_7, v55_8, v55_10) else ((fun (j6 : Int32) => (if (f_X4_has ((f_X1_explainersOf gb (f_X4_nodeAtPlace a3 (0 : Int32))) &&& a4) v55_10) = 0 then f_X0_search_L55 gb ga a1 a2 a3 a4 rcf n v55_7 v55_8 (v55_10 + 1) else (if j6 = 0 then f_X0_search_L55 gb ga a1 a2 a3 a4 rcf n v55_7 v55_8 (v55_10 + 1) else ((fun (y17_7 : Int32) => f_X0_search_L55 gb ga a1 a2 a3 a4 rcf n y17_7 (v55_8 &&& ((f_X4_only v55_10) ^^^ (-1))) (v55_10 + 1)) (rcf (a1 + 1) (a2 ||| (f_X4_only v55_10)) (a3 &&& ((f_X1_explainedBy ga v55_10) ^^^ (-1))) (v55_8 &&& ((f_X4_only v55_10) ^^^ (-1))) v55_7))))) (if 14 ≤ a1 then (0 : Int32) else (if (f_J6_bitCount_0f7a4 v55_7) ≤ a1 then (0 : Int32) else (1 : Int32)))))
def p_X0_search_L55 (gb : AA) (ga : AA) (a1 : Int32) (a2 : Int32) (a3 : Int32) (a4 : Int32) (rcf : Int32 → Int32 → Int32 → Int32 → Int32 → Int32) (rcp : Int32 → Int32 → Int32 → Int32 → Int32 → Prop) : Nat → Int32 → Int32 → Int32 → Prop
  | 0, _, _, _ => False
  | n + 1, v55_7, v55_8, v55_10 => ((14 ≤ v55_10 → True) ∧ (¬ (14 ≤ v55_10) → (((14 ≤ a1 → True) ∧ (¬ (14 ≤ a1) → (((f_J6_bitCount_0f7a4 v55_7) ≤ a1 → True) ∧ (¬ ((f_J6_bitCount_0f7a4 v55_7) ≤ a1) → True)))) ∧ ∀ (j6 : Int32), (if 14 ≤ a1 then (0 : Int32) else (if (f_J6_bitCount_0f7a4 v55_7) ≤ a1 then (0 : Int32) else (1 : Int32))) = j6 → (((f_X4_has ((f_X1_explainersOf gb (f_X4_nodeAtPlace a3 (0 : Int32))) &&& a4) v55_10) = 0 → p_X0_search_L55 gb ga a1 a2 a3 a4 rcf rcp n v55_7 v55_8 (v55_10 + 1)) ∧ (¬ ((f_X4_has ((f_X1_explainersOf gb (f_X4_nodeAtPlace a3 (0 : Int32))) &&& a4) v55_10) = 0) → ((j6 = 0 → p_X0_search_L55 gb ga a1 a2 a3 a4 rcf rcp n v55_7 v55_8 (v55_10 + 1)) ∧ (¬ (j6 = 0) → (p_X1_explainedBy v55_10 ∧ (rcp (a1 + 1) (a2 ||| (f_X4_only v55_10)) (a3 &&& ((f_X1_explainedBy ga v55_10) ^^^ (-1))) (v55_8 &&& ((f_X4_only v55_10) ^^^ (-1))) v55_7 ∧ (∀ (y17_7 : Int32), (rcf (a1 + 1) (a2 ||| (f_X4_only v55_10)) (a3 &&& ((f_X1_explainedBy ga v55_10) ^^^ (-1))) (v55_8 &&& ((f_X4_only v55_10) ^^^ (-1))) v55_7) = y17_7 → p_X0_search_L55 gb ga a1 a2 a3 a4 rcf rcp n y17_7 (v55_8 &&& ((f_X4_only v55_10) ^^^ (-1))) (v55_10 + 1)))))))))))
def f_X0_search (dr : Int32) (gb : AA) (ga : AA) : Nat → Int32 → Int32 → Int32 → Int32 → Int32 → Int32
  | 0, _, _, _, _, _ => 0
  | n + 1, a1, a2, a3, a4, a5 => (if (f_X4_nodeAtPlace a3 (0 : Int32)) = (-1) then ((fun (j19 : Int32) => j19) (if (f_X0_isBetter dr a2 a5) = 0 then a5 else a2)) else (match f_X0_search_L55 gb ga a1 a2 a3 a4 (f_X0_search dr gb ga n) 15 a5 a4 (0 : Int32) with | (r4_v55_7, r4_v55_8, r4_v55_10) => r4_v55_7))
def p_X0_search (dr : Int32) (gb : AA) (ga : AA) : Nat → Int32 → Int32 → Int32 → Int32 → Int32 → Prop
  | 0, _, _, _, _, _ => False
  | n + 1, a1, a2, a3, a4, a5 => (p_X4_nodeAtPlace a3 (0 : Int32) ∧ (((f_X4_nodeAtPlace a3 (0 : Int32)) = (-1) → (p_X0_isBetter dr a2 a5 ∧ ((((f_X0_isBetter dr a2 a5) = 0 → True) ∧ (¬ ((f_X0_isBetter dr a2 a5) = 0) → True)) ∧ ∀ (j19 : Int32), (if (f_X0_isBetter dr a2 a5) = 0 then a5 else a2) = j19 → True))) ∧ (¬ ((f_X4_nodeAtPlace a3 (0 : Int32)) = (-1)) → (p_X1_explainersOf (f_X4_nodeAtPlace a3 (0 : Int32)) ∧ (p_X0_search_L55 gb ga a1 a2 a3 a4 (f_X0_search dr gb ga n) (p_X0_search dr gb ga n) 15 a5 a4 (0 : Int32) ∧ ∀ (r4_v55_7 : Int32) (r4_v55_8 : Int32) (r4_v55_10 : Int32), f_X0_search_L55 gb ga a1 a2 a3 a4 (f_X0_search dr gb ga n) 15 a5 a4 (0 : Int32) = (r4_v55_7, r4_v55_8, r4_v55_10) → True)))))
def f_X0_bestBySearch (dr : Int32) (dp : Int32) (gb : AA) (ga : AA) : Int32 := (f_X0_search dr gb ga 16 (0 : Int32) (0 : Int32) dr dp dr)
def p_X0_bestBySearch (dr : Int32) (dp : Int32) (gb : AA) (ga : AA) : Prop := (p_X0_search dr gb ga 16 (0 : Int32) (0 : Int32) dr dp dr ∧ True)
def f_X0_bestByTrying_L20 (dr : Int32) (dp : Int32) (gb : AA) : Nat → Int32 → Int32 → Int32 → Int32 × Int32 × Int32
  | 0, _, _, _ => (0, 0, 0)
  | n + 1, v20_1, v20_3, v20_4 => (if (1 <<< ((f_J6_bitCount_0f7a4 dp) &&& 31)) ≤ v20_4 then (v20_1, v20_3, v20_4) else (if (f_X0_isBetter dr v20_3 v20_1) = 0 then f_X0_bestByTrying_L20 dr dp gb n v20_1 ((v20_3 - dp) &&& dp) (v20_4 + 1) else (if (f_X0_explainsAll dr gb v20_3) = 0 then f_X0_bestByTrying_L20 dr dp gb n v20_1 ((v20_3 - dp) &&& dp) (v20_4 + 1) else f_X0_bestByTrying_L20 dr dp gb n v20_3 ((v20_3 - dp) &&& dp) (v20_4 + 1))))
def p_X0_bestByTrying_L20 (dr : Int32) (dp : Int32) (gb : AA) : Nat → Int32 → Int32 → Int32 → Prop
  | 0, _, _, _ => False
  | n + 1, v20_1, v20_3, v20_4 => (((1 <<< ((f_J6_bitCount_0f7a4 dp) &&& 31)) ≤ v20_4 → True) ∧ (¬ ((1 <<< ((f_J6_bitCount_0f7a4 dp) &&& 31)) ≤ v20_4) → (p_X0_isBetter dr v20_3 v20_1 ∧ (((f_X0_isBetter dr v20_3 v20_1) = 0 → p_X0_bestByTrying_L20 dr dp gb n v20_1 ((v20_3 - dp) &&& dp) (v20_4 + 1)) ∧ (¬ ((f_X0_isBetter dr v20_3 v20_1) = 0) → (p_X0_explainsAll dr gb v20_3 ∧ (((f_X0_explainsAll dr gb v20_3) = 0 → p_X0_bestByTrying_L20 dr dp gb n v20_1 ((v20_3 - dp) &&& dp) (v20_4 + 1)) ∧ (¬ ((f_X0_explainsAll dr gb v20_3) = 0) → p_X0_bestByTrying_L20 dr dp gb n v20_3 ((v20_3 - dp) &&& dp) (v20_4 + 1)))))))))
def f_X0_bestByTrying (dr : Int32) (dp : Int32) (gb : AA) : Int32 := (match f_X0_bestByTrying_L20 dr dp gb 16385 dr (0 : Int32) (0 : Int32) with | (r2_v20_1, r2_v20_3, r2_v20_4) => r2_v20_1)
def p_X0_bestByTrying (dr : Int32) (dp : Int32) (gb : AA) : Prop := (p_X0_bestByTrying_L20 dr dp gb 16385 dr (0 : Int32) (0 : Int32) ∧ ∀ (r2_v20_1 : Int32) (r2_v20_3 : Int32) (r2_v20_4 : Int32), f_X0_bestByTrying_L20 dr dp gb 16385 dr (0 : Int32) (0 : Int32) = (r2_v20_1, r2_v20_3, r2_v20_4) → True)
def f_X0_greedyNext_L7 (dr : Int32) (dp : Int32) (ga : AA) (a1 : Int32) : Nat → Int32 → Int32 → Int32 → Int32 × Int32 × Int32
  | 0, _, _, _ => (0, 0, 0)
  | n + 1, v7_2, v7_3, v7_4 => (if 14 ≤ v7_4 then (v7_2, v7_3, v7_4) else ((fun (j4 : Int32) => ((fun (j8 : Int32) => (if v7_3 < j4 then f_X0_greedyNext_L7 dr dp ga a1 n v7_4 j4 (v7_4 + 1) else (if j4 ≤ 0 then f_X0_greedyNext_L7 dr dp ga a1 n v7_2 v7_3 (v7_4 + 1) else (if j8 = 0 then f_X0_greedyNext_L7 dr dp ga a1 n v7_2 v7_3 (v7_4 + 1) else f_X0_greedyNext_L7 dr dp ga a1 n v7_4 j4 (v7_4 + 1))))) (if j4 = v7_3 then (if (f_X4_has dr v7_4) = 0 then (0 : Int32) else (if (f_X4_has dr v7_2) = 0 then (1 : Int32) else (0 : Int32))) else (0 : Int32)))) (if (f_X4_has dp v7_4) = 0 then (0 : Int32) else (f_J6_bitCount_0f7a4 ((f_X1_explainedBy ga v7_4) &&& a1)))))
def p_X0_greedyNext_L7 (dr : Int32) (dp : Int32) (ga : AA) (a1 : Int32) : Nat → Int32 → Int32 → Int32 → Prop
  | 0, _, _, _ => False
  | n + 1, v7_2, v7_3, v7_4 => ((14 ≤ v7_4 → True) ∧ (¬ (14 ≤ v7_4) → ((((f_X4_has dp v7_4) = 0 → True) ∧ (¬ ((f_X4_has dp v7_4) = 0) → (p_X1_explainedBy v7_4 ∧ True))) ∧ ∀ (j4 : Int32), (if (f_X4_has dp v7_4) = 0 then (0 : Int32) else (f_J6_bitCount_0f7a4 ((f_X1_explainedBy ga v7_4) &&& a1))) = j4 → (((j4 = v7_3 → (((f_X4_has dr v7_4) = 0 → True) ∧ (¬ ((f_X4_has dr v7_4) = 0) → (((f_X4_has dr v7_2) = 0 → True) ∧ (¬ ((f_X4_has dr v7_2) = 0) → True))))) ∧ (¬ (j4 = v7_3) → True)) ∧ ∀ (j8 : Int32), (if j4 = v7_3 then (if (f_X4_has dr v7_4) = 0 then (0 : Int32) else (if (f_X4_has dr v7_2) = 0 then (1 : Int32) else (0 : Int32))) else (0 : Int32)) = j8 → ((v7_3 < j4 → p_X0_greedyNext_L7 dr dp ga a1 n v7_4 j4 (v7_4 + 1)) ∧ (¬ (v7_3 < j4) → ((j4 ≤ 0 → p_X0_greedyNext_L7 dr dp ga a1 n v7_2 v7_3 (v7_4 + 1)) ∧ (¬ (j4 ≤ 0) → ((j8 = 0 → p_X0_greedyNext_L7 dr dp ga a1 n v7_2 v7_3 (v7_4 + 1)) ∧ (¬ (j8 = 0) → p_X0_greedyNext_L7 dr dp ga a1 n v7_4 j4 (v7_4 + 1)))))))))))
def f_X0_greedyNext (dr : Int32) (dp : Int32) (ga : AA) (a1 : Int32) : Int32 := (match f_X0_greedyNext_L7 dr dp ga a1 15 (0 : Int32) (0 : Int32) (0 : Int32) with | (r1_v7_2, r1_v7_3, r1_v7_4) => r1_v7_2)
def p_X0_greedyNext (dr : Int32) (dp : Int32) (ga : AA) (a1 : Int32) : Prop := (p_X0_greedyNext_L7 dr dp ga a1 15 (0 : Int32) (0 : Int32) (0 : Int32) ∧ ∀ (r1_v7_2 : Int32) (r1_v7_3 : Int32) (r1_v7_4 : Int32), f_X0_greedyNext_L7 dr dp ga a1 15 (0 : Int32) (0 : Int32) (0 : Int32) = (r1_v7_2, r1_v7_3, r1_v7_4) → True)
def f_X0_greedyCount_L7 (dr : Int32) (dp : Int32) (ga : AA) : Nat → Int32 → Int32 → Int32 × Int32
  | 0, _, _ => (0, 0)
  | n + 1, v7_1, v7_2 => (if v7_1 = 0 then (v7_1, v7_2) else (if 14 ≤ v7_2 then (v7_1, v7_2) else ((fun (y6_1 : Int32) => f_X0_greedyCount_L7 dr dp ga n y6_1 (v7_2 + 1)) (v7_1 &&& ((f_X1_explainedBy ga (f_X0_greedyNext dr dp ga v7_1)) ^^^ (-1))))))
def p_X0_greedyCount_L7 (dr : Int32) (dp : Int32) (ga : AA) : Nat → Int32 → Int32 → Prop
  | 0, _, _ => False
  | n + 1, v7_1, v7_2 => ((v7_1 = 0 → True) ∧ (¬ (v7_1 = 0) → ((14 ≤ v7_2 → True) ∧ (¬ (14 ≤ v7_2) → (p_X0_greedyNext dr dp ga v7_1 ∧ (p_X1_explainedBy (f_X0_greedyNext dr dp ga v7_1) ∧ (∀ (y6_1 : Int32), (v7_1 &&& ((f_X1_explainedBy ga (f_X0_greedyNext dr dp ga v7_1)) ^^^ (-1))) = y6_1 → p_X0_greedyCount_L7 dr dp ga n y6_1 (v7_2 + 1))))))))
def f_X0_greedyCount (dr : Int32) (dp : Int32) (ga : AA) : Int32 := (match f_X0_greedyCount_L7 dr dp ga 15 dr (0 : Int32) with | (r1_v7_1, r1_v7_2) => r1_v7_2)
def p_X0_greedyCount (dr : Int32) (dp : Int32) (ga : AA) : Prop := (p_X0_greedyCount_L7 dr dp ga 15 dr (0 : Int32) ∧ ∀ (r1_v7_1 : Int32) (r1_v7_2 : Int32), f_X0_greedyCount_L7 dr dp ga 15 dr (0 : Int32) = (r1_v7_1, r1_v7_2) → True)
def f_X0_greedyAt_L7 (dr : Int32) (dp : Int32) (ga : AA) (a1 : Int32) : Nat → Int32 → Int32 → Int32
  | 0, _, _ => 0
  | n + 1, v7_2, v7_3 => (if 14 ≤ v7_3 then ((-1) : Int32) else (if v7_2 = 0 then ((-1) : Int32) else (if v7_3 = a1 then (f_X0_greedyNext dr dp ga v7_2) else ((fun (y7_2 : Int32) => f_X0_greedyAt_L7 dr dp ga a1 n y7_2 (v7_3 + 1)) (v7_2 &&& ((f_X1_explainedBy ga (f_X0_greedyNext dr dp ga v7_2)) ^^^ (-1)))))))
def p_X0_greedyAt_L7 (dr : Int32) (dp : Int32) (ga : AA) (a1 : Int32) : Nat → Int32 → Int32 → Prop
  | 0, _, _ => False
  | n + 1, v7_2, v7_3 => ((14 ≤ v7_3 → True) ∧ (¬ (14 ≤ v7_3) → ((v7_2 = 0 → True) ∧ (¬ (v7_2 = 0) → (p_X0_greedyNext dr dp ga v7_2 ∧ ((v7_3 = a1 → True) ∧ (¬ (v7_3 = a1) → (p_X1_explainedBy (f_X0_greedyNext dr dp ga v7_2) ∧ (∀ (y7_2 : Int32), (v7_2 &&& ((f_X1_explainedBy ga (f_X0_greedyNext dr dp ga v7_2)) ^^^ (-1))) = y7_2 → p_X0_greedyAt_L7 dr dp ga a1 n y7_2 (v7_3 + 1))))))))))
def f_X0_greedyAt (dr : Int32) (dp : Int32) (ga : AA) (a1 : Int32) : Int32 := f_X0_greedyAt_L7 dr dp ga a1 15 dr (0 : Int32)
def p_X0_greedyAt (dr : Int32) (dp : Int32) (ga : AA) (a1 : Int32) : Prop := p_X0_greedyAt_L7 dr dp ga a1 15 dr (0 : Int32)
def f_X4_init  : AA × AA × AA × AA × Int32 × AA × AA × AA × AA × AA × Int32 × AA × AA := (match f_X1_init with | (u1_0, u1_1, u1_2, u1_3) => (match f_X2_init with | (u2_0, u2_1, u2_2, u2_3, u2_4) => (match f_X3_init with | (u3_0, u3_1) => (u1_0, u1_1, u1_2, u1_3, 0, u2_0, u2_1, u2_2, u2_3, u2_4, 0, u3_0, u3_1))))
def p_X4_init  : Prop := (∀ (u1_0 : AA) (u1_1 : AA) (u1_2 : AA) (u1_3 : AA), f_X1_init = (u1_0, u1_1, u1_2, u1_3) → (∀ (u2_0 : AA) (u2_1 : AA) (u2_2 : AA) (u2_3 : AA) (u2_4 : AA), f_X2_init = (u2_0, u2_1, u2_2, u2_3, u2_4) → (p_X3_init ∧ ∀ (u3_0 : AA) (u3_1 : AA), f_X3_init = (u3_0, u3_1) → True)))
def f_X4_checkNode (a0 : Int32) : String ⊕ Unit := (if a0 < 0 then .inl eIO else (if a0 < 14 then .inr () else .inl eIO))
def f_X4_checkTicks (a0 : Int32) (a1 : Int32) : String ⊕ Unit := (if a0 < 1 then .inl eIA else (if a0 ≤ a1 then .inr () else .inl eIA))
def f_X4_checkChange (lc : Int32) (a1 : Int32) : String ⊕ Unit := (if a1 = 0 then .inl eIS else (if (f_X2_isFull lc) = 0 then .inr () else .inl eIS))
def f_X4_nodeThere (a0 : Int32) (a1 : Int32) : String ⊕ Int32 := (if (f_X4_nodeAtPlace a0 a1) = (-1) then .inl eIO else .inr (f_X4_nodeAtPlace a0 a1))
def p_X4_nodeThere (a0 : Int32) (a1 : Int32) : Prop := (p_X4_nodeAtPlace a0 a1 ∧ (((f_X4_nodeAtPlace a0 a1) = (-1) → True) ∧ (¬ ((f_X4_nodeAtPlace a0 a1) = (-1)) → True)))
def f_X4_diagnoser (xr : Int32) (gu : AA) : Int32 × Int32 := (match f_X0_init gu xr with | (u1_0, u1_1) => (u1_0, u1_1))
def p_X4_diagnoser (xr : Int32) (gu : AA) : Prop := (p_X0_init gu xr ∧ ∀ (u1_0 : Int32) (u1_1 : Int32), f_X0_init gu xr = (u1_0, u1_1) → True)
def f_X4_need (gn : AA) (gu : AA) (gb : AA) (ga : AA) (a1 : Int32) (a2 : Int32) : String ⊕ (Int32 × AA × AA × AA × AA) := (match f_X4_checkNode a1 with | .inl E => .inl E | .inr _ => (match f_X4_checkNode a2 with | .inl E => .inl E | .inr _ => (if a1 = a2 then .inl eIA else (if (f_X4_has (f_X1_below gb a2) a1) = 0 then (match f_X1_link gn gu gb ga a1 a2 with | (r7, u7_0, u7_1, u7_2, u7_3) => .inr (r7, u7_0, u7_1, u7_2, u7_3)) else .inl eIA))))
def p_X4_need (gn : AA) (gu : AA) (gb : AA) (ga : AA) (a1 : Int32) (a2 : Int32) : Prop := ((f_X4_checkNode a1 = .inr () → ((f_X4_checkNode a2 = .inr () → ((a1 = a2 → True) ∧ (¬ (a1 = a2) → (p_X1_below a2 ∧ (((f_X4_has (f_X1_below gb a2) a1) = 0 → (p_X1_link gn gu gb ga a1 a2 ∧ ∀ (r7 : Int32) (u7_0 : AA) (u7_1 : AA) (u7_2 : AA) (u7_3 : AA), f_X1_link gn gu gb ga a1 a2 = (r7, u7_0, u7_1, u7_2, u7_3) → True)) ∧ (¬ ((f_X4_has (f_X1_below gb a2) a1) = 0) → True)))))))))
def f_X4_release (gn : AA) (gu : AA) (gb : AA) (ga : AA) (a1 : Int32) (a2 : Int32) : String ⊕ (Int32 × AA × AA × AA × AA) := (match f_X4_checkNode a1 with | .inl E => .inl E | .inr _ => (match f_X4_checkNode a2 with | .inl E => .inl E | .inr _ => (match f_X1_unlink gn gu gb ga a1 a2 with | (r3, u3_0, u3_1, u3_2, u3_3) => .inr (r3, u3_0, u3_1, u3_2, u3_3))))
def p_X4_release (gn : AA) (gu : AA) (gb : AA) (ga : AA) (a1 : Int32) (a2 : Int32) : Prop := ((f_X4_checkNode a1 = .inr () → ((f_X4_checkNode a2 = .inr () → (p_X1_unlink gn gu gb ga a1 a2 ∧ ∀ (r3 : Int32) (u3_0 : AA) (u3_1 : AA) (u3_2 : AA) (u3_3 : AA), f_X1_unlink gn gu gb ga a1 a2 = (r3, u3_0, u3_1, u3_2, u3_3) → True)))))
def f_X4_needs (gn : AA) (a1 : Int32) (a2 : Int32) : String ⊕ Int32 := (match f_X4_checkNode a1 with | .inl E => .inl E | .inr _ => (match f_X4_checkNode a2 with | .inl E => .inl E | .inr _ => .inr (f_X4_has (f_X1_needed gn a1) a2)))
def p_X4_needs (a1 : Int32) (a2 : Int32) : Prop := ((f_X4_checkNode a1 = .inr () → ((f_X4_checkNode a2 = .inr () → (p_X1_needed a1 ∧ True)))))
def f_X4_dependsOn (gb : AA) (a1 : Int32) (a2 : Int32) : String ⊕ Int32 := (match f_X4_checkNode a1 with | .inl E => .inl E | .inr _ => (match f_X4_checkNode a2 with | .inl E => .inl E | .inr _ => .inr (f_X4_has (f_X1_below gb a1) a2)))
def p_X4_dependsOn (a1 : Int32) (a2 : Int32) : Prop := ((f_X4_checkNode a1 = .inr () → ((f_X4_checkNode a2 = .inr () → (p_X1_below a1 ∧ True)))))
def f_X4_height (gn : AA) (a1 : Int32) : String ⊕ Int32 := (match f_X4_checkNode a1 with | .inl E => .inl E | .inr _ => .inr (f_X1_longestWayDown gn a1))
def p_X4_height (gn : AA) (a1 : Int32) : Prop := ((f_X4_checkNode a1 = .inr () → (p_X1_longestWayDown gn a1 ∧ True)))
def f_X4_tick (xt : Int32) (a1 : Int32) : String ⊕ (Int32 × Int32) := (match f_X4_checkTicks a1 (100 : Int32) with | .inl E => .inl E | .inr _ => .inr ((xt + a1), (xt + a1)))
def f_X4_now (xt : Int32) : Int32 := xt
def f_X4_raise (xr : Int32) (xt : Int32) (gb : AA) (ga : AA) (lc : Int32) (lk : AA) (ln : AA) (lt : AA) (ll : AA) (lr : AA) (tw : Int32) (tn : AA) (tt : AA) (a1 : Int32) : String ⊕ (Int32 × Int32 × Int32 × AA × AA × AA × AA × AA × Int32 × AA × AA) := (match f_X4_checkNode a1 with | .inl E => .inl E | .inr _ => ((fun (j3 : Int32) => (match f_X4_checkChange lc j3 with | .inl E => .inl E | .inr _ => (match f_X2_addRaise lc lk ln lt ll lr a1 xt with | (u6_0, u6_1, u6_2, u6_3, u6_4, u6_5) => (match f_X3_join tw tn tt a1 (((f_X1_below gb a1) ||| (f_X1_above ga a1)) &&& xr) with | (r10, u10_0, u10_1, u10_2) => .inr (r10, (xr ||| (f_X4_only a1)), u6_0, u6_1, u6_2, u6_3, u6_4, u6_5, u10_0, u10_1, u10_2))))) (if (f_X4_has xr a1) = 0 then (1 : Int32) else (0 : Int32))))
def p_X4_raise (xr : Int32) (xt : Int32) (gb : AA) (ga : AA) (lc : Int32) (lk : AA) (ln : AA) (lt : AA) (ll : AA) (lr : AA) (tw : Int32) (tn : AA) (tt : AA) (a1 : Int32) : Prop := ((f_X4_checkNode a1 = .inr () → ((((f_X4_has xr a1) = 0 → True) ∧ (¬ ((f_X4_has xr a1) = 0) → True)) ∧ ∀ (j3 : Int32), (if (f_X4_has xr a1) = 0 then (1 : Int32) else (0 : Int32)) = j3 → ((f_X4_checkChange lc j3 = .inr () → (p_X2_addRaise lc lk ln lt ll a1 xt ∧ ∀ (u6_0 : Int32) (u6_1 : AA) (u6_2 : AA) (u6_3 : AA) (u6_4 : AA) (u6_5 : AA), f_X2_addRaise lc lk ln lt ll lr a1 xt = (u6_0, u6_1, u6_2, u6_3, u6_4, u6_5) → (p_X1_below a1 ∧ (p_X1_above a1 ∧ (p_X3_join tw tn tt a1 (((f_X1_below gb a1) ||| (f_X1_above ga a1)) &&& xr) ∧ ∀ (r10 : Int32) (u10_0 : Int32) (u10_1 : AA) (u10_2 : AA), f_X3_join tw tn tt a1 (((f_X1_below gb a1) ||| (f_X1_above ga a1)) &&& xr) = (r10, u10_0, u10_1, u10_2) → True)))))))))
def f_X4_clear (xr : Int32) (xt : Int32) (lc : Int32) (lk : AA) (ln : AA) (lt : AA) (ll : AA) (lr : AA) (tw : Int32) (tn : AA) (a1 : Int32) : String ⊕ (Int32 × Int32 × Int32 × AA × AA × AA × AA × AA) := (match f_X4_checkNode a1 with | .inl E => .inl E | .inr _ => (match f_X4_checkChange lc (f_X4_has xr a1) with | .inl E => .inl E | .inr _ => (match f_X2_addClear lc lk ln lt ll lr a1 xt with | (u4_0, u4_1, u4_2, u4_3, u4_4) => (match f_X3_leave tw tn a1 with | (r6, u6_0) => .inr (r6, (xr &&& ((f_X4_only a1) ^^^ (-1))), u4_0, u4_1, u4_2, u4_3, u4_4, u6_0)))))
def p_X4_clear (xr : Int32) (xt : Int32) (lc : Int32) (lk : AA) (ln : AA) (lt : AA) (ll : AA) (lr : AA) (tw : Int32) (tn : AA) (a1 : Int32) : Prop := ((f_X4_checkNode a1 = .inr () → ((f_X4_checkChange lc (f_X4_has xr a1) = .inr () → (p_X2_addClear lc lk ln lt ll lr a1 xt ∧ ∀ (u4_0 : Int32) (u4_1 : AA) (u4_2 : AA) (u4_3 : AA) (u4_4 : AA), f_X2_addClear lc lk ln lt ll lr a1 xt = (u4_0, u4_1, u4_2, u4_3, u4_4) → (p_X3_leave tw tn a1 ∧ ∀ (r6 : Int32) (u6_0 : AA), f_X3_leave tw tn a1 = (r6, u6_0) → True))))))
def f_X4_events (lc : Int32) : Int32 := (f_X2_count lc)
def f_X4_ticketOf (tn : AA) (a1 : Int32) : String ⊕ Int32 := (match f_X4_checkNode a1 with | .inl E => .inl E | .inr _ => .inr (f_X3_numberOf tn a1))
def p_X4_ticketOf (a1 : Int32) : Prop := ((f_X4_checkNode a1 = .inr () → (p_X3_numberOf a1 ∧ True)))
def f_X4_isPlausible (xr : Int32) (gu : AA) (a1 : Int32) : String ⊕ Int32 := (match f_X4_checkNode a1 with | .inl E => .inl E | .inr _ => (match f_X4_diagnoser xr gu with | (u2_0, u2_1) => .inr (f_X4_has (f_X0_plausibleNodes u2_1) a1)))
def p_X4_isPlausible (xr : Int32) (gu : AA) (a1 : Int32) : Prop := ((f_X4_checkNode a1 = .inr () → (p_X4_diagnoser xr gu ∧ ∀ (u2_0 : Int32) (u2_1 : Int32), f_X4_diagnoser xr gu = (u2_0, u2_1) → True)))
def f_X4_causes (xr : Int32) (gu : AA) (gb : AA) (ga : AA) : Int32 := (match f_X4_diagnoser xr gu with | (u1_0, u1_1) => (f_J6_bitCount_0f7a4 (f_X0_bestBySearch u1_0 u1_1 gb ga)))
def p_X4_causes (xr : Int32) (gu : AA) (gb : AA) (ga : AA) : Prop := (p_X4_diagnoser xr gu ∧ ∀ (u1_0 : Int32) (u1_1 : Int32), f_X4_diagnoser xr gu = (u1_0, u1_1) → (p_X0_bestBySearch u1_0 u1_1 gb ga ∧ True))
def f_X4_cause (xr : Int32) (gu : AA) (gb : AA) (ga : AA) (a1 : Int32) : String ⊕ Int32 := (match f_X4_diagnoser xr gu with | (u1_0, u1_1) => (match f_X4_nodeThere (f_X0_bestBySearch u1_0 u1_1 gb ga) a1 with | .inl E => .inl E | .inr r3 => .inr r3))
def p_X4_cause (xr : Int32) (gu : AA) (gb : AA) (ga : AA) (a1 : Int32) : Prop := (p_X4_diagnoser xr gu ∧ ∀ (u1_0 : Int32) (u1_1 : Int32), f_X4_diagnoser xr gu = (u1_0, u1_1) → (p_X0_bestBySearch u1_0 u1_1 gb ga ∧ (p_X4_nodeThere (f_X0_bestBySearch u1_0 u1_1 gb ga) a1 ∧ ∀ (r3 : Int32), f_X4_nodeThere (f_X0_bestBySearch u1_0 u1_1 gb ga) a1 = .inr r3 → True)))
def f_X4_causeByTrying (xr : Int32) (gu : AA) (gb : AA) (a1 : Int32) : String ⊕ Int32 := (match f_X4_diagnoser xr gu with | (u1_0, u1_1) => (match f_X4_nodeThere (f_X0_bestByTrying u1_0 u1_1 gb) a1 with | .inl E => .inl E | .inr r3 => .inr r3))
def p_X4_causeByTrying (xr : Int32) (gu : AA) (gb : AA) (a1 : Int32) : Prop := (p_X4_diagnoser xr gu ∧ ∀ (u1_0 : Int32) (u1_1 : Int32), f_X4_diagnoser xr gu = (u1_0, u1_1) → (p_X0_bestByTrying u1_0 u1_1 gb ∧ (p_X4_nodeThere (f_X0_bestByTrying u1_0 u1_1 gb) a1 ∧ ∀ (r3 : Int32), f_X4_nodeThere (f_X0_bestByTrying u1_0 u1_1 gb) a1 = .inr r3 → True)))
def f_X4_greedyCauses (xr : Int32) (gu : AA) (ga : AA) : Int32 := (match f_X4_diagnoser xr gu with | (u1_0, u1_1) => (f_X0_greedyCount u1_0 u1_1 ga))
def p_X4_greedyCauses (xr : Int32) (gu : AA) (ga : AA) : Prop := (p_X4_diagnoser xr gu ∧ ∀ (u1_0 : Int32) (u1_1 : Int32), f_X4_diagnoser xr gu = (u1_0, u1_1) → (p_X0_greedyCount u1_0 u1_1 ga ∧ True))
def f_X4_greedyCause (xr : Int32) (gu : AA) (ga : AA) (a1 : Int32) : String ⊕ Int32 := (match f_X4_diagnoser xr gu with | (u1_0, u1_1) => (if (f_X0_greedyAt u1_0 u1_1 ga a1) = (-1) then .inl eIO else .inr (f_X0_greedyAt u1_0 u1_1 ga a1)))
def p_X4_greedyCause (xr : Int32) (gu : AA) (ga : AA) (a1 : Int32) : Prop := (p_X4_diagnoser xr gu ∧ ∀ (u1_0 : Int32) (u1_1 : Int32), f_X4_diagnoser xr gu = (u1_0, u1_1) → (p_X0_greedyAt u1_0 u1_1 ga a1 ∧ (((f_X0_greedyAt u1_0 u1_1 ga a1) = (-1) → True) ∧ (¬ ((f_X0_greedyAt u1_0 u1_1 ga a1) = (-1)) → True))))
def f_X4_causeOf (xr : Int32) (gu : AA) (gb : AA) (ga : AA) (a1 : Int32) : String ⊕ Int32 := (match f_X4_checkNode a1 with | .inl E => .inl E | .inr _ => (if (f_X4_has xr a1) = 0 then .inr ((-1) : Int32) else (match f_X4_diagnoser xr gu with | (u4_0, u4_1) => .inr (f_X4_nodeAtPlace ((f_X0_bestBySearch u4_0 u4_1 gb ga) &&& (f_X1_explainersOf gb a1)) (0 : Int32)))))
def p_X4_causeOf (xr : Int32) (gu : AA) (gb : AA) (ga : AA) (a1 : Int32) : Prop := ((f_X4_checkNode a1 = .inr () → (((f_X4_has xr a1) = 0 → True) ∧ (¬ ((f_X4_has xr a1) = 0) → (p_X4_diagnoser xr gu ∧ ∀ (u4_0 : Int32) (u4_1 : Int32), f_X4_diagnoser xr gu = (u4_0, u4_1) → (p_X0_bestBySearch u4_0 u4_1 gb ga ∧ (p_X1_explainersOf a1 ∧ (p_X4_nodeAtPlace ((f_X0_bestBySearch u4_0 u4_1 gb ga) &&& (f_X1_explainersOf gb a1)) (0 : Int32) ∧ True))))))))
end
section
def f_L_cell (L : Nat) (xs : AA) (a1 : Int32) : Int32 := ((fun (j1 : Int32) => (j1 &&& 2147483647)) (if (Int32.ofNat L) ≤ a1 then ((47777 * (a1 - a1 / 7001 * 7001)) + 3391) else (xs (a1).toNatClampNeg)))
def p_L_cell (L : Nat) (xs : AA) (a1 : Int32) : Prop := ((((Int32.ofNat L) ≤ a1 → True) ∧ (¬ ((Int32.ofNat L) ≤ a1) → (vp_in a1 L ∧ True))) ∧ ∀ (j1 : Int32), (if (Int32.ofNat L) ≤ a1 then ((47777 * (a1 - a1 / 7001 * 7001)) + 3391) else (xs (a1).toNatClampNeg)) = j1 → True)
def f_L_need (gn : AA) (gu : AA) (gb : AA) (ga : AA) (a1 : Int32) (a2 : Int32) : Int32 × AA × AA × AA × AA := (match f_X4_need gn gu gb ga a1 a2 with | .inl E => (if E = eIO then (((-101) : Int32), gn, gu, gb, ga) else (((-102) : Int32), gn, gu, gb, ga)) | .inr (r1, u1_0, u1_1, u1_2, u1_3) => ((fun (j2 : Int32) => (j2, u1_0, u1_1, u1_2, u1_3)) (if r1 = 0 then (0 : Int32) else (1 : Int32))))
def p_L_need (gn : AA) (gu : AA) (gb : AA) (ga : AA) (a1 : Int32) (a2 : Int32) : Prop := (p_X4_need gn gu gb ga a1 a2 ∧ ∀ (r1 : Int32) (u1_0 : AA) (u1_1 : AA) (u1_2 : AA) (u1_3 : AA), f_X4_need gn gu gb ga a1 a2 = .inr (r1, u1_0, u1_1, u1_2, u1_3) → (((r1 = 0 → True) ∧ (¬ (r1 = 0) → True)) ∧ ∀ (j2 : Int32), (if r1 = 0 then (0 : Int32) else (1 : Int32)) = j2 → True))
def f_L_release (gn : AA) (gu : AA) (gb : AA) (ga : AA) (a1 : Int32) (a2 : Int32) : Int32 × AA × AA × AA × AA := (match f_X4_release gn gu gb ga a1 a2 with | .inl E => (((-101) : Int32), gn, gu, gb, ga) | .inr (r1, u1_0, u1_1, u1_2, u1_3) => ((fun (j2 : Int32) => (j2, u1_0, u1_1, u1_2, u1_3)) (if r1 = 0 then (0 : Int32) else (1 : Int32))))
def p_L_release (gn : AA) (gu : AA) (gb : AA) (ga : AA) (a1 : Int32) (a2 : Int32) : Prop := (p_X4_release gn gu gb ga a1 a2 ∧ ∀ (r1 : Int32) (u1_0 : AA) (u1_1 : AA) (u1_2 : AA) (u1_3 : AA), f_X4_release gn gu gb ga a1 a2 = .inr (r1, u1_0, u1_1, u1_2, u1_3) → (((r1 = 0 → True) ∧ (¬ (r1 = 0) → True)) ∧ ∀ (j2 : Int32), (if r1 = 0 then (0 : Int32) else (1 : Int32)) = j2 → True))
def f_L_needs (gn : AA) (a1 : Int32) (a2 : Int32) : Int32 := (match f_X4_needs gn a1 a2 with | .inl E => ((-101) : Int32) | .inr r1 => ((fun (j2 : Int32) => j2) (if r1 = 0 then (0 : Int32) else (1 : Int32))))
def p_L_needs (gn : AA) (a1 : Int32) (a2 : Int32) : Prop := (p_X4_needs a1 a2 ∧ ∀ (r1 : Int32), f_X4_needs gn a1 a2 = .inr r1 → (((r1 = 0 → True) ∧ (¬ (r1 = 0) → True)) ∧ ∀ (j2 : Int32), (if r1 = 0 then (0 : Int32) else (1 : Int32)) = j2 → True))
def f_L_depends (gb : AA) (a1 : Int32) (a2 : Int32) : Int32 := (match f_X4_dependsOn gb a1 a2 with | .inl E => ((-101) : Int32) | .inr r1 => ((fun (j2 : Int32) => j2) (if r1 = 0 then (0 : Int32) else (1 : Int32))))
def p_L_depends (gb : AA) (a1 : Int32) (a2 : Int32) : Prop := (p_X4_dependsOn a1 a2 ∧ ∀ (r1 : Int32), f_X4_dependsOn gb a1 a2 = .inr r1 → (((r1 = 0 → True) ∧ (¬ (r1 = 0) → True)) ∧ ∀ (j2 : Int32), (if r1 = 0 then (0 : Int32) else (1 : Int32)) = j2 → True))
def f_L_height (gn : AA) (a1 : Int32) : Int32 := (match f_X4_height gn a1 with | .inl E => ((-101) : Int32) | .inr r1 => r1)
def p_L_height (gn : AA) (a1 : Int32) : Prop := (p_X4_height gn a1 ∧ ∀ (r1 : Int32), f_X4_height gn a1 = .inr r1 → True)
def f_L_tick (xt : Int32) (a1 : Int32) : Int32 × Int32 := (match f_X4_tick xt a1 with | .inl E => (((-102) : Int32), xt) | .inr (r1, u1_0) => (r1, u1_0))
def f_L_raise (xr : Int32) (xt : Int32) (gb : AA) (ga : AA) (lc : Int32) (lk : AA) (ln : AA) (lt : AA) (ll : AA) (lr : AA) (tw : Int32) (tn : AA) (tt : AA) (a1 : Int32) : Int32 × Int32 × Int32 × AA × AA × AA × AA × AA × Int32 × AA × AA := (match f_X4_raise xr xt gb ga lc lk ln lt ll lr tw tn tt a1 with | .inl E => (if E = eIO then (((-101) : Int32), xr, lc, lk, ln, lt, ll, lr, tw, tn, tt) else (((-103) : Int32), xr, lc, lk, ln, lt, ll, lr, tw, tn, tt)) | .inr (r1, u1_0, u1_1, u1_2, u1_3, u1_4, u1_5, u1_6, u1_7, u1_8, u1_9) => (r1, u1_0, u1_1, u1_2, u1_3, u1_4, u1_5, u1_6, u1_7, u1_8, u1_9))
def p_L_raise (xr : Int32) (xt : Int32) (gb : AA) (ga : AA) (lc : Int32) (lk : AA) (ln : AA) (lt : AA) (ll : AA) (lr : AA) (tw : Int32) (tn : AA) (tt : AA) (a1 : Int32) : Prop := (p_X4_raise xr xt gb ga lc lk ln lt ll lr tw tn tt a1 ∧ ∀ (r1 : Int32) (u1_0 : Int32) (u1_1 : Int32) (u1_2 : AA) (u1_3 : AA) (u1_4 : AA) (u1_5 : AA) (u1_6 : AA) (u1_7 : Int32) (u1_8 : AA) (u1_9 : AA), f_X4_raise xr xt gb ga lc lk ln lt ll lr tw tn tt a1 = .inr (r1, u1_0, u1_1, u1_2, u1_3, u1_4, u1_5, u1_6, u1_7, u1_8, u1_9) → True)
def f_L_clear (xr : Int32) (xt : Int32) (lc : Int32) (lk : AA) (ln : AA) (lt : AA) (ll : AA) (lr : AA) (tw : Int32) (tn : AA) (a1 : Int32) : Int32 × Int32 × Int32 × AA × AA × AA × AA × AA := (match f_X4_clear xr xt lc lk ln lt ll lr tw tn a1 with | .inl E => (if E = eIO then (((-101) : Int32), xr, lc, lk, ln, lt, ll, tn) else (((-103) : Int32), xr, lc, lk, ln, lt, ll, tn)) | .inr (r1, u1_0, u1_1, u1_2, u1_3, u1_4, u1_5, u1_6) => (r1, u1_0, u1_1, u1_2, u1_3, u1_4, u1_5, u1_6))
def p_L_clear (xr : Int32) (xt : Int32) (lc : Int32) (lk : AA) (ln : AA) (lt : AA) (ll : AA) (lr : AA) (tw : Int32) (tn : AA) (a1 : Int32) : Prop := (p_X4_clear xr xt lc lk ln lt ll lr tw tn a1 ∧ ∀ (r1 : Int32) (u1_0 : Int32) (u1_1 : Int32) (u1_2 : AA) (u1_3 : AA) (u1_4 : AA) (u1_5 : AA) (u1_6 : AA), f_X4_clear xr xt lc lk ln lt ll lr tw tn a1 = .inr (r1, u1_0, u1_1, u1_2, u1_3, u1_4, u1_5, u1_6) → True)
def f_L_ticket (tn : AA) (a1 : Int32) : Int32 := (match f_X4_ticketOf tn a1 with | .inl E => ((-101) : Int32) | .inr r1 => r1)
def p_L_ticket (tn : AA) (a1 : Int32) : Prop := (p_X4_ticketOf a1 ∧ ∀ (r1 : Int32), f_X4_ticketOf tn a1 = .inr r1 → True)
def f_L_plausible (xr : Int32) (gu : AA) (a1 : Int32) : Int32 := (match f_X4_isPlausible xr gu a1 with | .inl E => ((-101) : Int32) | .inr r1 => ((fun (j2 : Int32) => j2) (if r1 = 0 then (0 : Int32) else (1 : Int32))))
def p_L_plausible (xr : Int32) (gu : AA) (a1 : Int32) : Prop := (p_X4_isPlausible xr gu a1 ∧ ∀ (r1 : Int32), f_X4_isPlausible xr gu a1 = .inr r1 → (((r1 = 0 → True) ∧ (¬ (r1 = 0) → True)) ∧ ∀ (j2 : Int32), (if r1 = 0 then (0 : Int32) else (1 : Int32)) = j2 → True))
def f_L_cause (xr : Int32) (gu : AA) (gb : AA) (ga : AA) (a1 : Int32) : Int32 := (match f_X4_cause xr gu gb ga a1 with | .inl E => ((-101) : Int32) | .inr r1 => r1)
def p_L_cause (xr : Int32) (gu : AA) (gb : AA) (ga : AA) (a1 : Int32) : Prop := (p_X4_cause xr gu gb ga a1 ∧ ∀ (r1 : Int32), f_X4_cause xr gu gb ga a1 = .inr r1 → True)
def f_L_tried (xr : Int32) (gu : AA) (gb : AA) (a1 : Int32) : Int32 := (match f_X4_causeByTrying xr gu gb a1 with | .inl E => ((-101) : Int32) | .inr r1 => r1)
def p_L_tried (xr : Int32) (gu : AA) (gb : AA) (a1 : Int32) : Prop := (p_X4_causeByTrying xr gu gb a1 ∧ ∀ (r1 : Int32), f_X4_causeByTrying xr gu gb a1 = .inr r1 → True)
def f_L_greedy (xr : Int32) (gu : AA) (ga : AA) (a1 : Int32) : Int32 := (match f_X4_greedyCause xr gu ga a1 with | .inl E => ((-101) : Int32) | .inr r1 => r1)
def p_L_greedy (xr : Int32) (gu : AA) (ga : AA) (a1 : Int32) : Prop := (p_X4_greedyCause xr gu ga a1 ∧ ∀ (r1 : Int32), f_X4_greedyCause xr gu ga a1 = .inr r1 → True)
def f_L_causeOf (xr : Int32) (gu : AA) (gb : AA) (ga : AA) (a1 : Int32) : Int32 := (match f_X4_causeOf xr gu gb ga a1 with | .inl E => ((-101) : Int32) | .inr r1 => r1)
def p_L_causeOf (xr : Int32) (gu : AA) (gb : AA) (ga : AA) (a1 : Int32) : Prop := (p_X4_causeOf xr gu gb ga a1 ∧ ∀ (r1 : Int32), f_X4_causeOf xr gu gb ga a1 = .inr r1 → True)
def f_L_hangs_L81 (gn : AA) (gb : AA) (v4_2 : Int32) (v19_4 : Int32) : Nat → Int32 → Int32 → Int32 × Int32
  | 0, _, _ => (0, 0)
  | n + 1, v81_5, v81_6 => (if 14 ≤ v81_6 then (v81_5, v81_6) else ((fun (j17 : Int32) => f_L_hangs_L81 gn gb v4_2 v19_4 n j17 (v81_6 + 1)) (if v81_5 = 0 then (if (f_L_needs gn v4_2 v81_6) = 1 then (if (f_L_depends gb v81_6 v19_4) = 1 then (1 : Int32) else (0 : Int32)) else (0 : Int32)) else (1 : Int32))))
def p_L_hangs_L81 (gn : AA) (gb : AA) (v4_2 : Int32) (v19_4 : Int32) : Nat → Int32 → Int32 → Prop
  | 0, _, _ => False
  | n + 1, v81_5, v81_6 => ((14 ≤ v81_6 → True) ∧ (¬ (14 ≤ v81_6) → (((v81_5 = 0 → (p_L_needs gn v4_2 v81_6 ∧ (((f_L_needs gn v4_2 v81_6) = 1 → (p_L_depends gb v81_6 v19_4 ∧ (((f_L_depends gb v81_6 v19_4) = 1 → True) ∧ (¬ ((f_L_depends gb v81_6 v19_4) = 1) → True)))) ∧ (¬ ((f_L_needs gn v4_2 v81_6) = 1) → True)))) ∧ (¬ (v81_5 = 0) → True)) ∧ ∀ (j17 : Int32), (if v81_5 = 0 then (if (f_L_needs gn v4_2 v81_6) = 1 then (if (f_L_depends gb v81_6 v19_4) = 1 then (1 : Int32) else (0 : Int32)) else (0 : Int32)) else (1 : Int32)) = j17 → p_L_hangs_L81 gn gb v4_2 v19_4 n j17 (v81_6 + 1))))
def f_L_hangs_L19 (gn : AA) (gb : AA) (v4_2 : Int32) : Nat → Int32 → Int32 → Int32 → Int32 × Int32 × Int32
  | 0, _, _, _ => (0, 0, 0)
  | n + 1, v19_1, v19_3, v19_4 => (if 14 ≤ v19_4 then (v19_1, v19_3, v19_4) else (if v19_1 = 0 then (v19_1, v19_3, v19_4) else ((fun (j8 : Int32) => ((fun (j10 : Int32) => (match f_L_hangs_L81 gn gb v4_2 v19_4 15 j8 (0 : Int32) with | (r15_v81_5, r15_v81_6) => ((fun (j24 : Int32) => ((fun (j26 : Int32) => f_L_hangs_L19 gn gb v4_2 n j26 j10 (v19_4 + 1)) (if j24 = r15_v81_5 then (if v4_2 = v19_4 then (if r15_v81_5 = 0 then (1 : Int32) else (0 : Int32)) else (1 : Int32)) else (0 : Int32)))) (if (f_L_depends gb v4_2 v19_4) = 1 then (1 : Int32) else (0 : Int32))))) (if j8 = 0 then v19_3 else (if ((f_L_height gn v19_4) + 1) ≤ v19_3 then v19_3 else ((f_L_height gn v19_4) + 1))))) (if (f_L_needs gn v4_2 v19_4) = 1 then (1 : Int32) else (0 : Int32)))))
def p_L_hangs_L19 (gn : AA) (gb : AA) (v4_2 : Int32) : Nat → Int32 → Int32 → Int32 → Prop
  | 0, _, _, _ => False
  | n + 1, v19_1, v19_3, v19_4 => ((14 ≤ v19_4 → True) ∧ (¬ (14 ≤ v19_4) → ((v19_1 = 0 → True) ∧ (¬ (v19_1 = 0) → (p_L_needs gn v4_2 v19_4 ∧ ((((f_L_needs gn v4_2 v19_4) = 1 → True) ∧ (¬ ((f_L_needs gn v4_2 v19_4) = 1) → True)) ∧ ∀ (j8 : Int32), (if (f_L_needs gn v4_2 v19_4) = 1 then (1 : Int32) else (0 : Int32)) = j8 → (((j8 = 0 → True) ∧ (¬ (j8 = 0) → (p_L_height gn v19_4 ∧ ((((f_L_height gn v19_4) + 1) ≤ v19_3 → True) ∧ (¬ (((f_L_height gn v19_4) + 1) ≤ v19_3) → (p_L_height gn v19_4 ∧ True)))))) ∧ ∀ (j10 : Int32), (if j8 = 0 then v19_3 else (if ((f_L_height gn v19_4) + 1) ≤ v19_3 then v19_3 else ((f_L_height gn v19_4) + 1))) = j10 → (p_L_hangs_L81 gn gb v4_2 v19_4 15 j8 (0 : Int32) ∧ ∀ (r15_v81_5 : Int32) (r15_v81_6 : Int32), f_L_hangs_L81 gn gb v4_2 v19_4 15 j8 (0 : Int32) = (r15_v81_5, r15_v81_6) → (p_L_depends gb v4_2 v19_4 ∧ ((((f_L_depends gb v4_2 v19_4) = 1 → True) ∧ (¬ ((f_L_depends gb v4_2 v19_4) = 1) → True)) ∧ ∀ (j24 : Int32), (if (f_L_depends gb v4_2 v19_4) = 1 then (1 : Int32) else (0 : Int32)) = j24 → (((j24 = r15_v81_5 → ((v4_2 = v19_4 → ((r15_v81_5 = 0 → True) ∧ (¬ (r15_v81_5 = 0) → True))) ∧ (¬ (v4_2 = v19_4) → True))) ∧ (¬ (j24 = r15_v81_5) → True)) ∧ ∀ (j26 : Int32), (if j24 = r15_v81_5 then (if v4_2 = v19_4 then (if r15_v81_5 = 0 then (1 : Int32) else (0 : Int32)) else (1 : Int32)) else (0 : Int32)) = j26 → p_L_hangs_L19 gn gb v4_2 n j26 j10 (v19_4 + 1))))))))))))
def f_L_hangs_L4 (gn : AA) (gb : AA) : Nat → Int32 → Int32 → Int32 × Int32
  | 0, _, _ => (0, 0)
  | n + 1, v4_1, v4_2 => (if 14 ≤ v4_2 then (v4_1, v4_2) else (if v4_1 = 0 then (v4_1, v4_2) else (match f_L_hangs_L19 gn gb v4_2 15 v4_1 (0 : Int32) (0 : Int32) with | (r4_v19_1, r4_v19_3, r4_v19_4) => ((fun (j30 : Int32) => f_L_hangs_L4 gn gb n j30 (v4_2 + 1)) (if r4_v19_1 = 0 then (0 : Int32) else (if (f_L_height gn v4_2) = r4_v19_3 then (1 : Int32) else (0 : Int32)))))))
def p_L_hangs_L4 (gn : AA) (gb : AA) : Nat → Int32 → Int32 → Prop
  | 0, _, _ => False
  | n + 1, v4_1, v4_2 => ((14 ≤ v4_2 → True) ∧ (¬ (14 ≤ v4_2) → ((v4_1 = 0 → True) ∧ (¬ (v4_1 = 0) → (p_L_hangs_L19 gn gb v4_2 15 v4_1 (0 : Int32) (0 : Int32) ∧ ∀ (r4_v19_1 : Int32) (r4_v19_3 : Int32) (r4_v19_4 : Int32), f_L_hangs_L19 gn gb v4_2 15 v4_1 (0 : Int32) (0 : Int32) = (r4_v19_1, r4_v19_3, r4_v19_4) → (((r4_v19_1 = 0 → True) ∧ (¬ (r4_v19_1 = 0) → (p_L_height gn v4_2 ∧ (((f_L_height gn v4_2) = r4_v19_3 → True) ∧ (¬ ((f_L_height gn v4_2) = r4_v19_3) → True))))) ∧ ∀ (j30 : Int32), (if r4_v19_1 = 0 then (0 : Int32) else (if (f_L_height gn v4_2) = r4_v19_3 then (1 : Int32) else (0 : Int32))) = j30 → p_L_hangs_L4 gn gb n j30 (v4_2 + 1)))))))
def f_L_hangs (gn : AA) (gb : AA) : Int32 := (match f_L_hangs_L4 gn gb 15 (1 : Int32) (0 : Int32) with | (r1_v4_1, r1_v4_2) => r1_v4_1)
def p_L_hangs (gn : AA) (gb : AA) : Prop := (p_L_hangs_L4 gn gb 15 (1 : Int32) (0 : Int32) ∧ ∀ (r1_v4_1 : Int32) (r1_v4_2 : Int32), f_L_hangs_L4 gn gb 15 (1 : Int32) (0 : Int32) = (r1_v4_1, r1_v4_2) → ((r1_v4_1 = 0 ∨ r1_v4_1 = 1) ∧ True))
def f_L_size_L4 (a0 : Int32) : Nat → Int32 → Int32 → Int32 × Int32
  | 0, _, _ => (0, 0)
  | n + 1, v4_1, v4_2 => (if 14 ≤ v4_2 then (v4_1, v4_2) else f_L_size_L4 a0 n (v4_1 + ((a0 >>> (v4_2 &&& 31)) &&& 1)) (v4_2 + 1))
def p_L_size_L4 (a0 : Int32) : Nat → Int32 → Int32 → Prop
  | 0, _, _ => False
  | n + 1, v4_1, v4_2 => ((14 ≤ v4_2 → True) ∧ (¬ (14 ≤ v4_2) → p_L_size_L4 a0 n (v4_1 + ((a0 >>> (v4_2 &&& 31)) &&& 1)) (v4_2 + 1)))
def f_L_size (a0 : Int32) : Int32 := (match f_L_size_L4 a0 15 (0 : Int32) (0 : Int32) with | (r1_v4_1, r1_v4_2) => r1_v4_1)
def p_L_size (a0 : Int32) : Prop := (p_L_size_L4 a0 15 (0 : Int32) (0 : Int32) ∧ ∀ (r1_v4_1 : Int32) (r1_v4_2 : Int32), f_L_size_L4 a0 15 (0 : Int32) (0 : Int32) = (r1_v4_1, r1_v4_2) → True)
def f_L_all_L4 (kl : AA) (a1 : Int32) : Nat → Int32 → Int32 → Int32 × Int32
  | 0, _, _ => (0, 0)
  | n + 1, v4_2, v4_3 => (if 14 ≤ v4_3 then (v4_2, v4_3) else ((fun (j3 : Int32) => f_L_all_L4 kl a1 n (v4_2 ||| j3) (v4_3 + 1)) (if ((a1 >>> (v4_3 &&& 31)) &&& 1) = 1 then (kl (v4_3).toNatClampNeg) else (0 : Int32))))
def p_L_all_L4 (kl : AA) (a1 : Int32) : Nat → Int32 → Int32 → Prop
  | 0, _, _ => False
  | n + 1, v4_2, v4_3 => ((14 ≤ v4_3 → True) ∧ (¬ (14 ≤ v4_3) → (((((a1 >>> (v4_3 &&& 31)) &&& 1) = 1 → (vp_in v4_3 14 ∧ True)) ∧ (¬ (((a1 >>> (v4_3 &&& 31)) &&& 1) = 1) → True)) ∧ ∀ (j3 : Int32), (if ((a1 >>> (v4_3 &&& 31)) &&& 1) = 1 then (kl (v4_3).toNatClampNeg) else (0 : Int32)) = j3 → p_L_all_L4 kl a1 n (v4_2 ||| j3) (v4_3 + 1))))
def f_L_all (kl : AA) (a1 : Int32) : Int32 := (match f_L_all_L4 kl a1 15 (0 : Int32) (0 : Int32) with | (r1_v4_2, r1_v4_3) => r1_v4_2)
def p_L_all (kl : AA) (a1 : Int32) : Prop := (p_L_all_L4 kl a1 15 (0 : Int32) (0 : Int32) ∧ ∀ (r1_v4_2 : Int32) (r1_v4_3 : Int32), f_L_all_L4 kl a1 15 (0 : Int32) (0 : Int32) = (r1_v4_2, r1_v4_3) → True)
def f_L_isBest_L99 (a3 : Int32) (v29_5 : Int32) : Nat → Int32 → Int32 → Int32 × Int32
  | 0, _, _ => (0, 0)
  | n + 1, v99_8, v99_9 => (if v99_9 < 0 then (v99_8, v99_9) else ((fun (j18 : Int32) => f_L_isBest_L99 a3 v29_5 n j18 (v99_9 + (-1))) (if ((v29_5 >>> (v99_9 &&& 31)) &&& 1) = ((a3 >>> (v99_9 &&& 31)) &&& 1) then v99_8 else v99_9)))
def p_L_isBest_L99 (a3 : Int32) (v29_5 : Int32) : Nat → Int32 → Int32 → Prop
  | 0, _, _ => False
  | n + 1, v99_8, v99_9 => ((v99_9 < 0 → True) ∧ (¬ (v99_9 < 0) → (((((v29_5 >>> (v99_9 &&& 31)) &&& 1) = ((a3 >>> (v99_9 &&& 31)) &&& 1) → True) ∧ (¬ (((v29_5 >>> (v99_9 &&& 31)) &&& 1) = ((a3 >>> (v99_9 &&& 31)) &&& 1)) → True)) ∧ ∀ (j18 : Int32), (if ((v29_5 >>> (v99_9 &&& 31)) &&& 1) = ((a3 >>> (v99_9 &&& 31)) &&& 1) then v99_8 else v99_9) = j18 → p_L_isBest_L99 a3 v29_5 n j18 (v99_9 + (-1)))))
def f_L_isBest_L29 (kl : AA) (a1 : Int32) (a2 : Int32) (a3 : Int32) : Nat → Int32 → Int32 → Int32 × Int32
  | 0, _, _ => (0, 0)
  | n + 1, v29_4, v29_5 => (if 16384 ≤ v29_5 then (v29_4, v29_5) else (if v29_4 = 0 then (v29_4, v29_5) else (if (v29_5 &&& (a1 ^^^ (-1))) = 0 then (if (f_L_size a3) < (f_L_size v29_5) then f_L_isBest_L29 kl a1 a2 a3 n v29_4 (v29_5 + 1) else (if ((f_L_all kl v29_5) &&& a2) = a2 then (match f_L_isBest_L99 a3 v29_5 15 (0 : Int32) (13 : Int32) with | (r16_v99_8, r16_v99_9) => ((fun (j22 : Int32) => f_L_isBest_L29 kl a1 a2 a3 n j22 (v29_5 + 1)) (if (f_L_size v29_5) = (f_L_size a3) then (if (f_L_size (v29_5 &&& a2)) < (f_L_size (a3 &&& a2)) then (1 : Int32) else (if (f_L_size (v29_5 &&& a2)) = (f_L_size (a3 &&& a2)) then (if v29_5 = a3 then (1 : Int32) else (if ((a3 >>> (r16_v99_8 &&& 31)) &&& 1) = 1 then (1 : Int32) else (0 : Int32))) else (0 : Int32))) else (0 : Int32)))) else f_L_isBest_L29 kl a1 a2 a3 n v29_4 (v29_5 + 1))) else f_L_isBest_L29 kl a1 a2 a3 n v29_4 (v29_5 + 1))))
def p_L_isBest_L29 (kl : AA) (a1 : Int32) (a2 : Int32) (a3 : Int32) : Nat → Int32 → Int32 → Prop
  | 0, _, _ => False
  | n + 1, v29_4, v29_5 => ((16384 ≤ v29_5 → True) ∧ (¬ (16384 ≤ v29_5) → ((v29_4 = 0 → True) ∧ (¬ (v29_4 = 0) → (((v29_5 &&& (a1 ^^^ (-1))) = 0 → (p_L_size v29_5 ∧ (p_L_size a3 ∧ (((f_L_size a3) < (f_L_size v29_5) → p_L_isBest_L29 kl a1 a2 a3 n v29_4 (v29_5 + 1)) ∧ (¬ ((f_L_size a3) < (f_L_size v29_5)) → (p_L_all kl v29_5 ∧ ((((f_L_all kl v29_5) &&& a2) = a2 → (p_L_size (v29_5 &&& a2) ∧ (p_L_size (a3 &&& a2) ∧ (p_L_isBest_L99 a3 v29_5 15 (0 : Int32) (13 : Int32) ∧ ∀ (r16_v99_8 : Int32) (r16_v99_9 : Int32), f_L_isBest_L99 a3 v29_5 15 (0 : Int32) (13 : Int32) = (r16_v99_8, r16_v99_9) → (p_L_size v29_5 ∧ (p_L_size a3 ∧ ((((f_L_size v29_5) = (f_L_size a3) → (((f_L_size (v29_5 &&& a2)) < (f_L_size (a3 &&& a2)) → True) ∧ (¬ ((f_L_size (v29_5 &&& a2)) < (f_L_size (a3 &&& a2))) → (((f_L_size (v29_5 &&& a2)) = (f_L_size (a3 &&& a2)) → ((v29_5 = a3 → True) ∧ (¬ (v29_5 = a3) → ((((a3 >>> (r16_v99_8 &&& 31)) &&& 1) = 1 → True) ∧ (¬ (((a3 >>> (r16_v99_8 &&& 31)) &&& 1) = 1) → True))))) ∧ (¬ ((f_L_size (v29_5 &&& a2)) = (f_L_size (a3 &&& a2))) → True))))) ∧ (¬ ((f_L_size v29_5) = (f_L_size a3)) → True)) ∧ ∀ (j22 : Int32), (if (f_L_size v29_5) = (f_L_size a3) then (if (f_L_size (v29_5 &&& a2)) < (f_L_size (a3 &&& a2)) then (1 : Int32) else (if (f_L_size (v29_5 &&& a2)) = (f_L_size (a3 &&& a2)) then (if v29_5 = a3 then (1 : Int32) else (if ((a3 >>> (r16_v99_8 &&& 31)) &&& 1) = 1 then (1 : Int32) else (0 : Int32))) else (0 : Int32))) else (0 : Int32)) = j22 → p_L_isBest_L29 kl a1 a2 a3 n j22 (v29_5 + 1)))))))) ∧ (¬ (((f_L_all kl v29_5) &&& a2) = a2) → p_L_isBest_L29 kl a1 a2 a3 n v29_4 (v29_5 + 1))))))))) ∧ (¬ ((v29_5 &&& (a1 ^^^ (-1))) = 0) → p_L_isBest_L29 kl a1 a2 a3 n v29_4 (v29_5 + 1)))))))
def f_L_isBest (kl : AA) (a1 : Int32) (a2 : Int32) (a3 : Int32) : Int32 := ((fun (j1 : Int32) => (match f_L_isBest_L29 kl a1 a2 a3 16385 j1 (0 : Int32) with | (r5_v29_4, r5_v29_5) => r5_v29_4)) (if (a3 &&& (a1 ^^^ (-1))) = 0 then (if ((f_L_all kl a3) &&& a2) = a2 then (1 : Int32) else (0 : Int32)) else (0 : Int32)))
def p_L_isBest (kl : AA) (a1 : Int32) (a2 : Int32) (a3 : Int32) : Prop := ((((a3 &&& (a1 ^^^ (-1))) = 0 → (p_L_all kl a3 ∧ ((((f_L_all kl a3) &&& a2) = a2 → True) ∧ (¬ (((f_L_all kl a3) &&& a2) = a2) → True)))) ∧ (¬ ((a3 &&& (a1 ^^^ (-1))) = 0) → True)) ∧ ∀ (j1 : Int32), (if (a3 &&& (a1 ^^^ (-1))) = 0 then (if ((f_L_all kl a3) &&& a2) = a2 then (1 : Int32) else (0 : Int32)) else (0 : Int32)) = j1 → (p_L_isBest_L29 kl a1 a2 a3 16385 j1 (0 : Int32) ∧ ∀ (r5_v29_4 : Int32) (r5_v29_5 : Int32), f_L_isBest_L29 kl a1 a2 a3 16385 j1 (0 : Int32) = (r5_v29_4, r5_v29_5) → ((r5_v29_4 = 0 ∨ r5_v29_4 = 1) ∧ True)))
def f_L_causes_L58 (gb : AA) (v15_5 : Int32) : Nat → Int32 → AA → Int32 × AA
  | 0, _, _ => (0, (fun _ => 0))
  | n + 1, v58_6, c_q2_58 => (if 14 ≤ v58_6 then (v58_6, c_q2_58) else ((fun (j11 : Int32) => f_L_causes_L58 gb v15_5 n (v58_6 + 1) (upd c_q2_58 (v15_5).toNatClampNeg ((c_q2_58 (v15_5).toNatClampNeg) ||| j11))) (if (f_L_depends gb v58_6 v15_5) = 1 then (1 <<< (v58_6 &&& 31)) else (0 : Int32))))
def p_L_causes_L58 (gb : AA) (v15_5 : Int32) : Nat → Int32 → AA → Prop
  | 0, _, _ => False
  | n + 1, v58_6, c_q2_58 => ((14 ≤ v58_6 → True) ∧ (¬ (14 ≤ v58_6) → (vp_in v15_5 14 ∧ (p_L_depends gb v58_6 v15_5 ∧ ((((f_L_depends gb v58_6 v15_5) = 1 → True) ∧ (¬ ((f_L_depends gb v58_6 v15_5) = 1) → True)) ∧ ∀ (j11 : Int32), (if (f_L_depends gb v58_6 v15_5) = 1 then (1 <<< (v58_6 &&& 31)) else (0 : Int32)) = j11 → (vp_in v15_5 14 ∧ p_L_causes_L58 gb v15_5 n (v58_6 + 1) (upd c_q2_58 (v15_5).toNatClampNeg ((c_q2_58 (v15_5).toNatClampNeg) ||| j11))))))))
def f_L_causes_L15 (gb : AA) (tn : AA) : Nat → Int32 → Int32 → AA → Int32 × Int32 × AA
  | 0, _, _, _ => (0, 0, (fun _ => 0))
  | n + 1, v15_3, v15_5, c_q2_15 => (if 14 ≤ v15_5 then (v15_3, v15_5, c_q2_15) else ((fun (j4 : Int32) => (match f_L_causes_L58 gb v15_5 15 (0 : Int32) (upd c_q2_15 (v15_5).toNatClampNeg (1 <<< (v15_5 &&& 31))) with | (r7_v58_6, r7_c_q2_58) => f_L_causes_L15 gb tn n (v15_3 ||| j4) (v15_5 + 1) r7_c_q2_58)) (if (f_L_ticket tn v15_5) ≤ 0 then (0 : Int32) else (1 <<< (v15_5 &&& 31)))))
def p_L_causes_L15 (gb : AA) (tn : AA) : Nat → Int32 → Int32 → AA → Prop
  | 0, _, _, _ => False
  | n + 1, v15_3, v15_5, c_q2_15 => ((14 ≤ v15_5 → True) ∧ (¬ (14 ≤ v15_5) → (p_L_ticket tn v15_5 ∧ ((((f_L_ticket tn v15_5) ≤ 0 → True) ∧ (¬ ((f_L_ticket tn v15_5) ≤ 0) → True)) ∧ ∀ (j4 : Int32), (if (f_L_ticket tn v15_5) ≤ 0 then (0 : Int32) else (1 <<< (v15_5 &&& 31))) = j4 → (vp_in v15_5 14 ∧ (p_L_causes_L58 gb v15_5 15 (0 : Int32) (upd c_q2_15 (v15_5).toNatClampNeg (1 <<< (v15_5 &&& 31))) ∧ ∀ (r7_v58_6 : Int32) (r7_c_q2_58 : AA), f_L_causes_L58 gb v15_5 15 (0 : Int32) (upd c_q2_15 (v15_5).toNatClampNeg (1 <<< (v15_5 &&& 31))) = (r7_v58_6, r7_c_q2_58) → p_L_causes_L15 gb tn n (v15_3 ||| j4) (v15_5 + 1) r7_c_q2_58))))))
def f_L_causes_L125 (gn : AA) (v107_5 : Int32) : Nat → Int32 → Int32 → Int32 × Int32
  | 0, _, _ => (0, 0)
  | n + 1, v125_6, v125_7 => (if 14 ≤ v125_7 then (v125_6, v125_7) else ((fun (j21 : Int32) => f_L_causes_L125 gn v107_5 n (v125_6 ||| j21) (v125_7 + 1)) (if (f_L_needs gn v125_7 v107_5) = 1 then (1 <<< (v125_7 &&& 31)) else (0 : Int32))))
def p_L_causes_L125 (gn : AA) (v107_5 : Int32) : Nat → Int32 → Int32 → Prop
  | 0, _, _ => False
  | n + 1, v125_6, v125_7 => ((14 ≤ v125_7 → True) ∧ (¬ (14 ≤ v125_7) → (p_L_needs gn v125_7 v107_5 ∧ ((((f_L_needs gn v125_7 v107_5) = 1 → True) ∧ (¬ ((f_L_needs gn v125_7 v107_5) = 1) → True)) ∧ ∀ (j21 : Int32), (if (f_L_needs gn v125_7 v107_5) = 1 then (1 <<< (v125_7 &&& 31)) else (0 : Int32)) = j21 → p_L_causes_L125 gn v107_5 n (v125_6 ||| j21) (v125_7 + 1)))))
def f_L_causes_L107 (xr : Int32) (gn : AA) (gu : AA) (r1_v15_3 : Int32) : Nat → Int32 → Int32 → Int32 → Int32 × Int32 × Int32
  | 0, _, _, _ => (0, 0, 0)
  | n + 1, v107_2, v107_4, v107_5 => (if 14 ≤ v107_5 then (v107_2, v107_4, v107_5) else (if v107_4 = 0 then (v107_2, v107_4, v107_5) else (match f_L_causes_L125 gn v107_5 15 (0 : Int32) (0 : Int32) with | (r18_v125_6, r18_v125_7) => ((fun (j23 : Int32) => ((fun (j27 : Int32) => ((fun (j30 : Int32) => ((fun (j32 : Int32) => f_L_causes_L107 xr gn gu r1_v15_3 n (v107_2 ||| j27) j32 (v107_5 + 1)) (if j30 = j23 then (1 : Int32) else (0 : Int32)))) (if (f_L_plausible xr gu v107_5) = 1 then (1 : Int32) else (0 : Int32)))) (if j23 = 0 then (0 : Int32) else (1 <<< (v107_5 &&& 31))))) (if ((r1_v15_3 >>> (v107_5 &&& 31)) &&& 1) = 1 then (1 : Int32) else (if r18_v125_6 ≤ 0 then (0 : Int32) else (if (r18_v125_6 &&& (r1_v15_3 ^^^ (-1))) = 0 then (1 : Int32) else (0 : Int32))))))))
def p_L_causes_L107 (xr : Int32) (gn : AA) (gu : AA) (r1_v15_3 : Int32) : Nat → Int32 → Int32 → Int32 → Prop
  | 0, _, _, _ => False
  | n + 1, v107_2, v107_4, v107_5 => ((14 ≤ v107_5 → True) ∧ (¬ (14 ≤ v107_5) → ((v107_4 = 0 → True) ∧ (¬ (v107_4 = 0) → (p_L_causes_L125 gn v107_5 15 (0 : Int32) (0 : Int32) ∧ ∀ (r18_v125_6 : Int32) (r18_v125_7 : Int32), f_L_causes_L125 gn v107_5 15 (0 : Int32) (0 : Int32) = (r18_v125_6, r18_v125_7) → (((((r1_v15_3 >>> (v107_5 &&& 31)) &&& 1) = 1 → True) ∧ (¬ (((r1_v15_3 >>> (v107_5 &&& 31)) &&& 1) = 1) → ((r18_v125_6 ≤ 0 → True) ∧ (¬ (r18_v125_6 ≤ 0) → (((r18_v125_6 &&& (r1_v15_3 ^^^ (-1))) = 0 → True) ∧ (¬ ((r18_v125_6 &&& (r1_v15_3 ^^^ (-1))) = 0) → True)))))) ∧ ∀ (j23 : Int32), (if ((r1_v15_3 >>> (v107_5 &&& 31)) &&& 1) = 1 then (1 : Int32) else (if r18_v125_6 ≤ 0 then (0 : Int32) else (if (r18_v125_6 &&& (r1_v15_3 ^^^ (-1))) = 0 then (1 : Int32) else (0 : Int32)))) = j23 → (((j23 = 0 → True) ∧ (¬ (j23 = 0) → True)) ∧ ∀ (j27 : Int32), (if j23 = 0 then (0 : Int32) else (1 <<< (v107_5 &&& 31))) = j27 → (p_L_plausible xr gu v107_5 ∧ ((((f_L_plausible xr gu v107_5) = 1 → True) ∧ (¬ ((f_L_plausible xr gu v107_5) = 1) → True)) ∧ ∀ (j30 : Int32), (if (f_L_plausible xr gu v107_5) = 1 then (1 : Int32) else (0 : Int32)) = j30 → (((j30 = j23 → True) ∧ (¬ (j30 = j23) → True)) ∧ ∀ (j32 : Int32), (if j30 = j23 then (1 : Int32) else (0 : Int32)) = j32 → p_L_causes_L107 xr gn gu r1_v15_3 n (v107_2 ||| j27) j32 (v107_5 + 1)))))))))))
def f_L_causes_L252 (xr : Int32) (gu : AA) (gb : AA) (ga : AA) : Nat → Int32 → Int32 → Int32 → Int32 → Int32 × Int32 × Int32 × Int32
  | 0, _, _, _, _ => (0, 0, 0, 0)
  | n + 1, v252_4, v252_5, v252_6, v252_7 => (if (f_X4_causes xr gu gb ga) ≤ v252_7 then (v252_4, v252_5, v252_6, v252_7) else (if v252_4 = 0 then (v252_4, v252_5, v252_6, v252_7) else ((fun (j39 : Int32) => f_L_causes_L252 xr gu gb ga n j39 (v252_5 ||| (1 <<< ((f_L_cause xr gu gb ga v252_7) &&& 31))) (f_L_cause xr gu gb ga v252_7) (v252_7 + 1)) (if (f_L_cause xr gu gb ga v252_7) ≤ v252_6 then (0 : Int32) else (if 14 ≤ (f_L_cause xr gu gb ga v252_7) then (0 : Int32) else (if (f_L_tried xr gu gb v252_7) = (f_L_cause xr gu gb ga v252_7) then (1 : Int32) else (0 : Int32)))))))
def p_L_causes_L252 (xr : Int32) (gu : AA) (gb : AA) (ga : AA) : Nat → Int32 → Int32 → Int32 → Int32 → Prop
  | 0, _, _, _, _ => False
  | n + 1, v252_4, v252_5, v252_6, v252_7 => (p_X4_causes xr gu gb ga ∧ (((f_X4_causes xr gu gb ga) ≤ v252_7 → True) ∧ (¬ ((f_X4_causes xr gu gb ga) ≤ v252_7) → ((v252_4 = 0 → True) ∧ (¬ (v252_4 = 0) → (p_L_cause xr gu gb ga v252_7 ∧ ((((f_L_cause xr gu gb ga v252_7) ≤ v252_6 → True) ∧ (¬ ((f_L_cause xr gu gb ga v252_7) ≤ v252_6) → ((14 ≤ (f_L_cause xr gu gb ga v252_7) → True) ∧ (¬ (14 ≤ (f_L_cause xr gu gb ga v252_7)) → (p_L_tried xr gu gb v252_7 ∧ (((f_L_tried xr gu gb v252_7) = (f_L_cause xr gu gb ga v252_7) → True) ∧ (¬ ((f_L_tried xr gu gb v252_7) = (f_L_cause xr gu gb ga v252_7)) → True))))))) ∧ ∀ (j39 : Int32), (if (f_L_cause xr gu gb ga v252_7) ≤ v252_6 then (0 : Int32) else (if 14 ≤ (f_L_cause xr gu gb ga v252_7) then (0 : Int32) else (if (f_L_tried xr gu gb v252_7) = (f_L_cause xr gu gb ga v252_7) then (1 : Int32) else (0 : Int32)))) = j39 → p_L_causes_L252 xr gu gb ga n j39 (v252_5 ||| (1 <<< ((f_L_cause xr gu gb ga v252_7) &&& 31))) (f_L_cause xr gu gb ga v252_7) (v252_7 + 1))))))))
def f_L_causes_L451 (xr : Int32) (gu : AA) (ga : AA) (r1_v15_3 : Int32) (r1_c_q2_15 : AA) (r15_v107_2 : Int32) (v396_7 : Int32) (v396_9 : Int32) : Nat → Int32 → Int32 → Int32 × Int32
  | 0, _, _ => (0, 0)
  | n + 1, v451_4, v451_11 => (if 14 ≤ v451_11 then (v451_4, v451_11) else (if v451_4 = 0 then (v451_4, v451_11) else ((fun (j69 : Int32) => ((fun (y75_13 : Int32) => ((fun (j76 : Int32) => ((fun (j78 : Int32) => ((fun (j80 : Int32) => f_L_causes_L451 xr gu ga r1_v15_3 r1_c_q2_15 r15_v107_2 v396_7 v396_9 n j80 (v451_11 + 1)) (if j69 < y75_13 then (1 : Int32) else (if j69 = y75_13 then (if j76 = 0 then (if j76 = j78 then (if v451_11 < (f_L_greedy xr gu ga v396_9) then (0 : Int32) else (1 : Int32)) else (0 : Int32)) else (if j78 = 0 then (1 : Int32) else (if j76 = j78 then (if v451_11 < (f_L_greedy xr gu ga v396_9) then (0 : Int32) else (1 : Int32)) else (0 : Int32)))) else (0 : Int32))))) (if ((r1_v15_3 >>> (v451_11 &&& 31)) &&& 1) = 1 then (1 : Int32) else (0 : Int32)))) (if ((r1_v15_3 >>> ((f_L_greedy xr gu ga v396_9) &&& 31)) &&& 1) = 1 then (1 : Int32) else (0 : Int32)))) (f_L_size ((r1_c_q2_15 ((f_L_greedy xr gu ga v396_9)).toNatClampNeg) &&& v396_7)))) (if ((r15_v107_2 >>> (v451_11 &&& 31)) &&& 1) = 1 then (f_L_size ((r1_c_q2_15 (v451_11).toNatClampNeg) &&& v396_7)) else (0 : Int32)))))
def p_L_causes_L451 (xr : Int32) (gu : AA) (ga : AA) (r1_v15_3 : Int32) (r1_c_q2_15 : AA) (r15_v107_2 : Int32) (v396_7 : Int32) (v396_9 : Int32) : Nat → Int32 → Int32 → Prop
  | 0, _, _ => False
  | n + 1, v451_4, v451_11 => ((14 ≤ v451_11 → True) ∧ (¬ (14 ≤ v451_11) → ((v451_4 = 0 → True) ∧ (¬ (v451_4 = 0) → (((((r15_v107_2 >>> (v451_11 &&& 31)) &&& 1) = 1 → (vp_in v451_11 14 ∧ (p_L_size ((r1_c_q2_15 (v451_11).toNatClampNeg) &&& v396_7) ∧ True))) ∧ (¬ (((r15_v107_2 >>> (v451_11 &&& 31)) &&& 1) = 1) → True)) ∧ ∀ (j69 : Int32), (if ((r15_v107_2 >>> (v451_11 &&& 31)) &&& 1) = 1 then (f_L_size ((r1_c_q2_15 (v451_11).toNatClampNeg) &&& v396_7)) else (0 : Int32)) = j69 → (vp_in (f_L_greedy xr gu ga v396_9) 14 ∧ (p_L_size ((r1_c_q2_15 ((f_L_greedy xr gu ga v396_9)).toNatClampNeg) &&& v396_7) ∧ (∀ (y75_13 : Int32), (f_L_size ((r1_c_q2_15 ((f_L_greedy xr gu ga v396_9)).toNatClampNeg) &&& v396_7)) = y75_13 → (((((r1_v15_3 >>> ((f_L_greedy xr gu ga v396_9) &&& 31)) &&& 1) = 1 → True) ∧ (¬ (((r1_v15_3 >>> ((f_L_greedy xr gu ga v396_9) &&& 31)) &&& 1) = 1) → True)) ∧ ∀ (j76 : Int32), (if ((r1_v15_3 >>> ((f_L_greedy xr gu ga v396_9) &&& 31)) &&& 1) = 1 then (1 : Int32) else (0 : Int32)) = j76 → (((((r1_v15_3 >>> (v451_11 &&& 31)) &&& 1) = 1 → True) ∧ (¬ (((r1_v15_3 >>> (v451_11 &&& 31)) &&& 1) = 1) → True)) ∧ ∀ (j78 : Int32), (if ((r1_v15_3 >>> (v451_11 &&& 31)) &&& 1) = 1 then (1 : Int32) else (0 : Int32)) = j78 → (((j69 < y75_13 → True) ∧ (¬ (j69 < y75_13) → ((j69 = y75_13 → ((j76 = 0 → ((j76 = j78 → ((v451_11 < (f_L_greedy xr gu ga v396_9) → True) ∧ (¬ (v451_11 < (f_L_greedy xr gu ga v396_9)) → True))) ∧ (¬ (j76 = j78) → True))) ∧ (¬ (j76 = 0) → ((j78 = 0 → True) ∧ (¬ (j78 = 0) → ((j76 = j78 → ((v451_11 < (f_L_greedy xr gu ga v396_9) → True) ∧ (¬ (v451_11 < (f_L_greedy xr gu ga v396_9)) → True))) ∧ (¬ (j76 = j78) → True))))))) ∧ (¬ (j69 = y75_13) → True)))) ∧ ∀ (j80 : Int32), (if j69 < y75_13 then (1 : Int32) else (if j69 = y75_13 then (if j76 = 0 then (if j76 = j78 then (if v451_11 < (f_L_greedy xr gu ga v396_9) then (0 : Int32) else (1 : Int32)) else (0 : Int32)) else (if j78 = 0 then (1 : Int32) else (if j76 = j78 then (if v451_11 < (f_L_greedy xr gu ga v396_9) then (0 : Int32) else (1 : Int32)) else (0 : Int32)))) else (0 : Int32))) = j80 → p_L_causes_L451 xr gu ga r1_v15_3 r1_c_q2_15 r15_v107_2 v396_7 v396_9 n j80 (v451_11 + 1))))))))))))
def f_L_causes_L396 (xr : Int32) (gu : AA) (ga : AA) (r1_v15_3 : Int32) (r1_c_q2_15 : AA) (r15_v107_2 : Int32) : Nat → Int32 → Int32 → Int32 → Int32 × Int32 × Int32
  | 0, _, _, _ => (0, 0, 0)
  | n + 1, v396_4, v396_7, v396_9 => (if (f_X4_greedyCauses xr gu ga) ≤ v396_9 then (v396_4, v396_7, v396_9) else (if v396_4 = 0 then (v396_4, v396_7, v396_9) else ((fun (j61 : Int32) => (match f_L_causes_L451 xr gu ga r1_v15_3 r1_c_q2_15 r15_v107_2 v396_7 v396_9 15 j61 (0 : Int32) with | (r66_v451_4, r66_v451_11) => ((fun (j89 : Int32) => f_L_causes_L396 xr gu ga r1_v15_3 r1_c_q2_15 r15_v107_2 n r66_v451_4 (v396_7 &&& j89) (v396_9 + 1)) (if r66_v451_4 = 0 then v396_7 else ((r1_c_q2_15 ((f_L_greedy xr gu ga v396_9)).toNatClampNeg) ^^^ (-1)))))) (if (f_L_greedy xr gu ga v396_9) < 0 then (0 : Int32) else (if ((r15_v107_2 >>> ((f_L_greedy xr gu ga v396_9) &&& 31)) &&& 1) = 1 then (if ((r1_c_q2_15 ((f_L_greedy xr gu ga v396_9)).toNatClampNeg) &&& v396_7) = 0 then (0 : Int32) else (1 : Int32)) else (0 : Int32))))))
def p_L_causes_L396 (xr : Int32) (gu : AA) (ga : AA) (r1_v15_3 : Int32) (r1_c_q2_15 : AA) (r15_v107_2 : Int32) : Nat → Int32 → Int32 → Int32 → Prop
  | 0, _, _, _ => False
  | n + 1, v396_4, v396_7, v396_9 => (((f_X4_greedyCauses xr gu ga) ≤ v396_9 → True) ∧ (¬ ((f_X4_greedyCauses xr gu ga) ≤ v396_9) → ((v396_4 = 0 → True) ∧ (¬ (v396_4 = 0) → (p_L_greedy xr gu ga v396_9 ∧ ((((f_L_greedy xr gu ga v396_9) < 0 → True) ∧ (¬ ((f_L_greedy xr gu ga v396_9) < 0) → ((((r15_v107_2 >>> ((f_L_greedy xr gu ga v396_9) &&& 31)) &&& 1) = 1 → (vp_in (f_L_greedy xr gu ga v396_9) 14 ∧ ((((r1_c_q2_15 ((f_L_greedy xr gu ga v396_9)).toNatClampNeg) &&& v396_7) = 0 → True) ∧ (¬ (((r1_c_q2_15 ((f_L_greedy xr gu ga v396_9)).toNatClampNeg) &&& v396_7) = 0) → True)))) ∧ (¬ (((r15_v107_2 >>> ((f_L_greedy xr gu ga v396_9) &&& 31)) &&& 1) = 1) → True)))) ∧ ∀ (j61 : Int32), (if (f_L_greedy xr gu ga v396_9) < 0 then (0 : Int32) else (if ((r15_v107_2 >>> ((f_L_greedy xr gu ga v396_9) &&& 31)) &&& 1) = 1 then (if ((r1_c_q2_15 ((f_L_greedy xr gu ga v396_9)).toNatClampNeg) &&& v396_7) = 0 then (0 : Int32) else (1 : Int32)) else (0 : Int32))) = j61 → (p_L_causes_L451 xr gu ga r1_v15_3 r1_c_q2_15 r15_v107_2 v396_7 v396_9 15 j61 (0 : Int32) ∧ ∀ (r66_v451_4 : Int32) (r66_v451_11 : Int32), f_L_causes_L451 xr gu ga r1_v15_3 r1_c_q2_15 r15_v107_2 v396_7 v396_9 15 j61 (0 : Int32) = (r66_v451_4, r66_v451_11) → (((r66_v451_4 = 0 → True) ∧ (¬ (r66_v451_4 = 0) → (vp_in (f_L_greedy xr gu ga v396_9) 14 ∧ True))) ∧ ∀ (j89 : Int32), (if r66_v451_4 = 0 then v396_7 else ((r1_c_q2_15 ((f_L_greedy xr gu ga v396_9)).toNatClampNeg) ^^^ (-1))) = j89 → p_L_causes_L396 xr gu ga r1_v15_3 r1_c_q2_15 r15_v107_2 n r66_v451_4 (v396_7 &&& j89) (v396_9 + 1)))))))))
def f_L_causes_L682 (r1_v15_3 : Int32) (r1_c_q2_15 : AA) (r34_v252_5 : Int32) (v663_9 : Int32) : Nat → Int32 → Int32 → Int32 × Int32
  | 0, _, _ => (0, 0)
  | n + 1, v682_10, v682_11 => (if v682_11 < 0 then (v682_10, v682_11) else ((fun (j106 : Int32) => f_L_causes_L682 r1_v15_3 r1_c_q2_15 r34_v252_5 v663_9 n j106 (v682_11 + (-1))) (if ((r34_v252_5 >>> (v682_11 &&& 31)) &&& 1) = 1 then (if (((r1_c_q2_15 (v682_11).toNatClampNeg) >>> (v663_9 &&& 31)) &&& 1) = 1 then (if ((r1_v15_3 >>> (v663_9 &&& 31)) &&& 1) = 1 then v682_11 else v682_10) else v682_10) else v682_10)))
def p_L_causes_L682 (r1_v15_3 : Int32) (r1_c_q2_15 : AA) (r34_v252_5 : Int32) (v663_9 : Int32) : Nat → Int32 → Int32 → Prop
  | 0, _, _ => False
  | n + 1, v682_10, v682_11 => ((v682_11 < 0 → True) ∧ (¬ (v682_11 < 0) → (((((r34_v252_5 >>> (v682_11 &&& 31)) &&& 1) = 1 → (vp_in v682_11 14 ∧ (((((r1_c_q2_15 (v682_11).toNatClampNeg) >>> (v663_9 &&& 31)) &&& 1) = 1 → ((((r1_v15_3 >>> (v663_9 &&& 31)) &&& 1) = 1 → True) ∧ (¬ (((r1_v15_3 >>> (v663_9 &&& 31)) &&& 1) = 1) → True))) ∧ (¬ ((((r1_c_q2_15 (v682_11).toNatClampNeg) >>> (v663_9 &&& 31)) &&& 1) = 1) → True)))) ∧ (¬ (((r34_v252_5 >>> (v682_11 &&& 31)) &&& 1) = 1) → True)) ∧ ∀ (j106 : Int32), (if ((r34_v252_5 >>> (v682_11 &&& 31)) &&& 1) = 1 then (if (((r1_c_q2_15 (v682_11).toNatClampNeg) >>> (v663_9 &&& 31)) &&& 1) = 1 then (if ((r1_v15_3 >>> (v663_9 &&& 31)) &&& 1) = 1 then v682_11 else v682_10) else v682_10) else v682_10) = j106 → p_L_causes_L682 r1_v15_3 r1_c_q2_15 r34_v252_5 v663_9 n j106 (v682_11 + (-1)))))
def f_L_causes_L663 (xr : Int32) (gu : AA) (gb : AA) (ga : AA) (r1_v15_3 : Int32) (r1_c_q2_15 : AA) (r34_v252_5 : Int32) : Nat → Int32 → Int32 → Int32 × Int32
  | 0, _, _ => (0, 0)
  | n + 1, v663_4, v663_9 => (if 14 ≤ v663_9 then (v663_4, v663_9) else (if v663_4 = 0 then (v663_4, v663_9) else (match f_L_causes_L682 r1_v15_3 r1_c_q2_15 r34_v252_5 v663_9 15 ((-1) : Int32) (13 : Int32) with | (r104_v682_10, r104_v682_11) => ((fun (j112 : Int32) => f_L_causes_L663 xr gu gb ga r1_v15_3 r1_c_q2_15 r34_v252_5 n j112 (v663_9 + 1)) (if (f_L_causeOf xr gu gb ga v663_9) = r104_v682_10 then (1 : Int32) else (0 : Int32))))))
def p_L_causes_L663 (xr : Int32) (gu : AA) (gb : AA) (ga : AA) (r1_v15_3 : Int32) (r1_c_q2_15 : AA) (r34_v252_5 : Int32) : Nat → Int32 → Int32 → Prop
  | 0, _, _ => False
  | n + 1, v663_4, v663_9 => ((14 ≤ v663_9 → True) ∧ (¬ (14 ≤ v663_9) → ((v663_4 = 0 → True) ∧ (¬ (v663_4 = 0) → (p_L_causes_L682 r1_v15_3 r1_c_q2_15 r34_v252_5 v663_9 15 ((-1) : Int32) (13 : Int32) ∧ ∀ (r104_v682_10 : Int32) (r104_v682_11 : Int32), f_L_causes_L682 r1_v15_3 r1_c_q2_15 r34_v252_5 v663_9 15 ((-1) : Int32) (13 : Int32) = (r104_v682_10, r104_v682_11) → (p_L_causeOf xr gu gb ga v663_9 ∧ ((((f_L_causeOf xr gu gb ga v663_9) = r104_v682_10 → True) ∧ (¬ ((f_L_causeOf xr gu gb ga v663_9) = r104_v682_10) → True)) ∧ ∀ (j112 : Int32), (if (f_L_causeOf xr gu gb ga v663_9) = r104_v682_10 then (1 : Int32) else (0 : Int32)) = j112 → p_L_causes_L663 xr gu gb ga r1_v15_3 r1_c_q2_15 r34_v252_5 n j112 (v663_9 + 1))))))))
def f_L_causes (xr : Int32) (gn : AA) (gu : AA) (gb : AA) (ga : AA) (tn : AA) : Int32 := (match f_L_causes_L15 gb tn 15 (0 : Int32) (0 : Int32) (fun _ => 0) with | (r1_v15_3, r1_v15_5, r1_c_q2_15) => (match f_L_causes_L107 xr gn gu r1_v15_3 15 (0 : Int32) (1 : Int32) (0 : Int32) with | (r15_v107_2, r15_v107_4, r15_v107_5) => (match f_L_causes_L252 xr gu gb ga 15 r15_v107_4 (0 : Int32) ((-1) : Int32) (0 : Int32) with | (r34_v252_4, r34_v252_5, r34_v252_6, r34_v252_7) => ((fun (j44 : Int32) => (match f_L_causes_L396 xr gu ga r1_v15_3 r1_c_q2_15 r15_v107_2 15 j44 r1_v15_3 (0 : Int32) with | (r57_v396_4, r57_v396_7, r57_v396_9) => ((fun (j92 : Int32) => (match f_L_causes_L663 xr gu gb ga r1_v15_3 r1_c_q2_15 r34_v252_5 15 j92 (0 : Int32) with | (r101_v663_4, r101_v663_9) => r101_v663_4)) (if r57_v396_4 = 0 then (0 : Int32) else (if r57_v396_7 = 0 then (if (f_X4_greedyCauses xr gu ga) < (f_X4_causes xr gu gb ga) then (0 : Int32) else (if (f_L_greedy xr gu ga (f_X4_greedyCauses xr gu ga)) = (-101) then (if (f_L_greedy xr gu ga ((-1) : Int32)) = (-101) then (1 : Int32) else (0 : Int32)) else (0 : Int32))) else (0 : Int32)))))) (if r34_v252_4 = 0 then (0 : Int32) else (if (f_L_cause xr gu gb ga (f_X4_causes xr gu gb ga)) = (-101) then (if (f_L_tried xr gu gb (f_X4_causes xr gu gb ga)) = (-101) then (if (f_L_cause xr gu gb ga ((-1) : Int32)) = (-101) then (if (f_L_isBest r1_c_q2_15 r15_v107_2 r1_v15_3 r34_v252_5) = 0 then (0 : Int32) else (1 : Int32)) else (0 : Int32)) else (0 : Int32)) else (0 : Int32)))))))
def p_L_causes (xr : Int32) (gn : AA) (gu : AA) (gb : AA) (ga : AA) (tn : AA) : Prop := (p_L_causes_L15 gb tn 15 (0 : Int32) (0 : Int32) (fun _ => 0) ∧ ∀ (r1_v15_3 : Int32) (r1_v15_5 : Int32) (r1_c_q2_15 : AA), f_L_causes_L15 gb tn 15 (0 : Int32) (0 : Int32) (fun _ => 0) = (r1_v15_3, r1_v15_5, r1_c_q2_15) → (p_L_causes_L107 xr gn gu r1_v15_3 15 (0 : Int32) (1 : Int32) (0 : Int32) ∧ ∀ (r15_v107_2 : Int32) (r15_v107_4 : Int32) (r15_v107_5 : Int32), f_L_causes_L107 xr gn gu r1_v15_3 15 (0 : Int32) (1 : Int32) (0 : Int32) = (r15_v107_2, r15_v107_4, r15_v107_5) → (p_L_causes_L252 xr gu gb ga 15 r15_v107_4 (0 : Int32) ((-1) : Int32) (0 : Int32) ∧ ∀ (r34_v252_4 : Int32) (r34_v252_5 : Int32) (r34_v252_6 : Int32) (r34_v252_7 : Int32), f_L_causes_L252 xr gu gb ga 15 r15_v107_4 (0 : Int32) ((-1) : Int32) (0 : Int32) = (r34_v252_4, r34_v252_5, r34_v252_6, r34_v252_7) → (((r34_v252_4 = 0 → True) ∧ (¬ (r34_v252_4 = 0) → (p_X4_causes xr gu gb ga ∧ (p_L_cause xr gu gb ga (f_X4_causes xr gu gb ga) ∧ (((f_L_cause xr gu gb ga (f_X4_causes xr gu gb ga)) = (-101) → (p_X4_causes xr gu gb ga ∧ (p_L_tried xr gu gb (f_X4_causes xr gu gb ga) ∧ (((f_L_tried xr gu gb (f_X4_causes xr gu gb ga)) = (-101) → (p_L_cause xr gu gb ga ((-1) : Int32) ∧ (((f_L_cause xr gu gb ga ((-1) : Int32)) = (-101) → (p_L_isBest r1_c_q2_15 r15_v107_2 r1_v15_3 r34_v252_5 ∧ (((f_L_isBest r1_c_q2_15 r15_v107_2 r1_v15_3 r34_v252_5) = 0 → True) ∧ (¬ ((f_L_isBest r1_c_q2_15 r15_v107_2 r1_v15_3 r34_v252_5) = 0) → True)))) ∧ (¬ ((f_L_cause xr gu gb ga ((-1) : Int32)) = (-101)) → True)))) ∧ (¬ ((f_L_tried xr gu gb (f_X4_causes xr gu gb ga)) = (-101)) → True))))) ∧ (¬ ((f_L_cause xr gu gb ga (f_X4_causes xr gu gb ga)) = (-101)) → True)))))) ∧ ∀ (j44 : Int32), (if r34_v252_4 = 0 then (0 : Int32) else (if (f_L_cause xr gu gb ga (f_X4_causes xr gu gb ga)) = (-101) then (if (f_L_tried xr gu gb (f_X4_causes xr gu gb ga)) = (-101) then (if (f_L_cause xr gu gb ga ((-1) : Int32)) = (-101) then (if (f_L_isBest r1_c_q2_15 r15_v107_2 r1_v15_3 r34_v252_5) = 0 then (0 : Int32) else (1 : Int32)) else (0 : Int32)) else (0 : Int32)) else (0 : Int32))) = j44 → (p_X4_greedyCauses xr gu ga ∧ (p_L_causes_L396 xr gu ga r1_v15_3 r1_c_q2_15 r15_v107_2 15 j44 r1_v15_3 (0 : Int32) ∧ ∀ (r57_v396_4 : Int32) (r57_v396_7 : Int32) (r57_v396_9 : Int32), f_L_causes_L396 xr gu ga r1_v15_3 r1_c_q2_15 r15_v107_2 15 j44 r1_v15_3 (0 : Int32) = (r57_v396_4, r57_v396_7, r57_v396_9) → (((r57_v396_4 = 0 → True) ∧ (¬ (r57_v396_4 = 0) → ((r57_v396_7 = 0 → (p_X4_causes xr gu gb ga ∧ (((f_X4_greedyCauses xr gu ga) < (f_X4_causes xr gu gb ga) → True) ∧ (¬ ((f_X4_greedyCauses xr gu ga) < (f_X4_causes xr gu gb ga)) → (p_L_greedy xr gu ga (f_X4_greedyCauses xr gu ga) ∧ (((f_L_greedy xr gu ga (f_X4_greedyCauses xr gu ga)) = (-101) → (p_L_greedy xr gu ga ((-1) : Int32) ∧ (((f_L_greedy xr gu ga ((-1) : Int32)) = (-101) → True) ∧ (¬ ((f_L_greedy xr gu ga ((-1) : Int32)) = (-101)) → True)))) ∧ (¬ ((f_L_greedy xr gu ga (f_X4_greedyCauses xr gu ga)) = (-101)) → True))))))) ∧ (¬ (r57_v396_7 = 0) → True)))) ∧ ∀ (j92 : Int32), (if r57_v396_4 = 0 then (0 : Int32) else (if r57_v396_7 = 0 then (if (f_X4_greedyCauses xr gu ga) < (f_X4_causes xr gu gb ga) then (0 : Int32) else (if (f_L_greedy xr gu ga (f_X4_greedyCauses xr gu ga)) = (-101) then (if (f_L_greedy xr gu ga ((-1) : Int32)) = (-101) then (1 : Int32) else (0 : Int32)) else (0 : Int32))) else (0 : Int32))) = j92 → (p_L_causes_L663 xr gu gb ga r1_v15_3 r1_c_q2_15 r34_v252_5 15 j92 (0 : Int32) ∧ ∀ (r101_v663_4 : Int32) (r101_v663_9 : Int32), f_L_causes_L663 xr gu gb ga r1_v15_3 r1_c_q2_15 r34_v252_5 15 j92 (0 : Int32) = (r101_v663_4, r101_v663_9) → ((r101_v663_4 = 0 ∨ r101_v663_4 = 1) ∧ True)))))))))
end
section
def f_L_law_L30 (xs : AA) (L : Nat) : Nat → Int32 → Int32 → Int32 → Int32 → AA → AA → AA → AA → Int32 → AA → AA → AA → AA → AA → Int32 → AA → AA → Int32 × Int32 × Int32 × Int32 × AA × AA × AA × AA × Int32 × AA × AA × AA × AA × AA × Int32 × AA × AA
  | 0, _, _, _, _, _, _, _, _, _, _, _, _, _, _, _, _, _ => (0, 0, 0, 0, (fun _ => 0), (fun _ => 0), (fun _ => 0), (fun _ => 0), 0, (fun _ => 0), (fun _ => 0), (fun _ => 0), (fun _ => 0), (fun _ => 0), 0, (fun _ => 0), (fun _ => 0))
  | n + 1, v30_2, v30_3, xr_30, xt_30, gn_30, gu_30, gb_30, ga_30, lc_30, lk_30, ln_30, lt_30, ll_30, lr_30, tw_30, tn_30, tt_30 => (if 40 ≤ v30_3 then (v30_2, v30_3, xr_30, xt_30, gn_30, gu_30, gb_30, ga_30, lc_30, lk_30, ln_30, lt_30, ll_30, lr_30, tw_30, tn_30, tt_30) else (if v30_2 = 0 then (v30_2, v30_3, xr_30, xt_30, gn_30, gu_30, gb_30, ga_30, lc_30, lk_30, ln_30, lt_30, ll_30, lr_30, tw_30, tn_30, tt_30) else ((fun (y11_7 : Int32) => (if ((f_L_cell L xs v30_3) - (f_L_cell L xs v30_3) / 8 * 8) < 2 then ((fun (j13 : Int32) => (match f_L_need gn_30 gu_30 gb_30 ga_30 (((f_L_cell L xs v30_3) / 8) - ((f_L_cell L xs v30_3) / 8) / 14 * 14) y11_7 with | (r17, u17_0, u17_1, u17_2, u17_3) => ((fun (j18 : Int32) => ((fun (j20 : Int32) => ((fun (j25 : Int32) => f_L_law_L30 xs L n j25 (v30_3 + 1) xr_30 xt_30 u17_0 u17_1 u17_2 u17_3 lc_30 lk_30 ln_30 lt_30 ll_30 lr_30 tw_30 tn_30 tt_30) (if j20 = 0 then (0 : Int32) else (if 0 < (v30_3 - v30_3 / 5 * 5) then (if 0 < (v30_3 - v30_3 / 3 * 3) then (1 : Int32) else (if (f_L_causes xr_30 u17_0 u17_1 u17_2 u17_3 tn_30) = 0 then (0 : Int32) else (1 : Int32))) else (if (f_L_hangs u17_0 u17_2) = 0 then (0 : Int32) else (if 0 < (v30_3 - v30_3 / 3 * 3) then (1 : Int32) else (if (f_L_causes xr_30 u17_0 u17_1 u17_2 u17_3 tn_30) = 0 then (0 : Int32) else (1 : Int32)))))))) (if j18 = j13 then (if (f_L_needs u17_0 (((f_L_cell L xs v30_3) / 8) - ((f_L_cell L xs v30_3) / 8) / 14 * 14) y11_7) = 1 then (1 : Int32) else (if j13 = 0 then (1 : Int32) else (0 : Int32))) else (0 : Int32)))) (if r17 < 0 then (0 : Int32) else (1 : Int32))))) (if (((f_L_cell L xs v30_3) / 8) - ((f_L_cell L xs v30_3) / 8) / 14 * 14) = y11_7 then (0 : Int32) else (if (f_L_depends gb_30 y11_7 (((f_L_cell L xs v30_3) / 8) - ((f_L_cell L xs v30_3) / 8) / 14 * 14)) = 0 then (1 : Int32) else (0 : Int32)))) else (if 10 ≤ v30_3 then (if ((f_L_cell L xs v30_3) - (f_L_cell L xs v30_3) / 8 * 8) = 2 then ((fun (y120_8 : Int32) => (match f_L_release gn_30 gu_30 gb_30 ga_30 (((f_L_cell L xs v30_3) / 8) - ((f_L_cell L xs v30_3) / 8) / 14 * 14) y11_7 with | (r121, u121_0, u121_1, u121_2, u121_3) => ((fun (j122 : Int32) => ((fun (j126 : Int32) => f_L_law_L30 xs L n j126 (v30_3 + 1) xr_30 xt_30 u121_0 u121_1 u121_2 u121_3 lc_30 lk_30 ln_30 lt_30 ll_30 lr_30 tw_30 tn_30 tt_30) (if j122 = 0 then (0 : Int32) else (if 0 < (v30_3 - v30_3 / 5 * 5) then (if 0 < (v30_3 - v30_3 / 3 * 3) then (1 : Int32) else (if (f_L_causes xr_30 u121_0 u121_1 u121_2 u121_3 tn_30) = 0 then (0 : Int32) else (1 : Int32))) else (if (f_L_hangs u121_0 u121_2) = 0 then (0 : Int32) else (if 0 < (v30_3 - v30_3 / 3 * 3) then (1 : Int32) else (if (f_L_causes xr_30 u121_0 u121_1 u121_2 u121_3 tn_30) = 0 then (0 : Int32) else (1 : Int32)))))))) (if r121 = y120_8 then (if (f_L_needs u121_0 (((f_L_cell L xs v30_3) / 8) - ((f_L_cell L xs v30_3) / 8) / 14 * 14) y11_7) = 0 then (1 : Int32) else (0 : Int32)) else (0 : Int32))))) (f_L_needs gn_30 (((f_L_cell L xs v30_3) / 8) - ((f_L_cell L xs v30_3) / 8) / 14 * 14) y11_7)) else (if ((f_L_cell L xs v30_3) - (f_L_cell L xs v30_3) / 8 * 8) = 3 then (match f_L_tick xt_30 (1 + (((f_L_cell L xs v30_3) / 8) - ((f_L_cell L xs v30_3) / 8) / 100 * 100)) with | (r105, u105_0) => ((fun (j106 : Int32) => ((fun (j108 : Int32) => f_L_law_L30 xs L n j108 (v30_3 + 1) xr_30 u105_0 gn_30 gu_30 gb_30 ga_30 lc_30 lk_30 ln_30 lt_30 ll_30 lr_30 tw_30 tn_30 tt_30) (if j106 = 0 then (0 : Int32) else (if 0 < (v30_3 - v30_3 / 5 * 5) then (if 0 < (v30_3 - v30_3 / 3 * 3) then (1 : Int32) else (if (f_L_causes xr_30 gn_30 gu_30 gb_30 ga_30 tn_30) = 0 then (0 : Int32) else (1 : Int32))) else (if (f_L_hangs gn_30 gb_30) = 0 then (0 : Int32) else (if 0 < (v30_3 - v30_3 / 3 * 3) then (1 : Int32) else (if (f_L_causes xr_30 gn_30 gu_30 gb_30 ga_30 tn_30) = 0 then (0 : Int32) else (1 : Int32)))))))) (if r105 = (((f_X4_now xt_30) + 1) + (((f_L_cell L xs v30_3) / 8) - ((f_L_cell L xs v30_3) / 8) / 100 * 100)) then (1 : Int32) else (0 : Int32)))) else ((fun (j40 : Int32) => (if j40 = 0 then (match f_L_raise xr_30 xt_30 gb_30 ga_30 lc_30 lk_30 ln_30 lt_30 ll_30 lr_30 tw_30 tn_30 tt_30 (((f_L_cell L xs v30_3) / 8) - ((f_L_cell L xs v30_3) / 8) / 14 * 14) with | (r44, u44_0, u44_1, u44_2, u44_3, u44_4, u44_5, u44_6, u44_7, u44_8, u44_9) => (if r44 ≤ 0 then f_L_law_L30 xs L n 0 (v30_3 + 1) u44_0 xt_30 gn_30 gu_30 gb_30 ga_30 u44_1 u44_2 u44_3 u44_4 u44_5 u44_6 u44_7 u44_8 u44_9 else (if (f_L_ticket u44_8 (((f_L_cell L xs v30_3) / 8) - ((f_L_cell L xs v30_3) / 8) / 14 * 14)) ≤ 0 then f_L_law_L30 xs L n 0 (v30_3 + 1) u44_0 xt_30 gn_30 gu_30 gb_30 ga_30 u44_1 u44_2 u44_3 u44_4 u44_5 u44_6 u44_7 u44_8 u44_9 else (match f_L_raise u44_0 xt_30 gb_30 ga_30 u44_1 u44_2 u44_3 u44_4 u44_5 u44_6 u44_7 u44_8 u44_9 (((f_L_cell L xs v30_3) / 8) - ((f_L_cell L xs v30_3) / 8) / 14 * 14) with | (r52, u52_0, u52_1, u52_2, u52_3, u52_4, u52_5, u52_6, u52_7, u52_8, u52_9) => ((fun (j53 : Int32) => ((fun (j55 : Int32) => ((fun (j61 : Int32) => f_L_law_L30 xs L n j61 (v30_3 + 1) u52_0 xt_30 gn_30 gu_30 gb_30 ga_30 u52_1 u52_2 u52_3 u52_4 u52_5 u52_6 u52_7 u52_8 u52_9) (if j55 = 0 then (0 : Int32) else (if 0 < (v30_3 - v30_3 / 5 * 5) then (if 0 < (v30_3 - v30_3 / 3 * 3) then (1 : Int32) else (if (f_L_causes u52_0 gn_30 gu_30 gb_30 ga_30 u52_8) = 0 then (0 : Int32) else (1 : Int32))) else (if (f_L_hangs gn_30 gb_30) = 0 then (0 : Int32) else (if 0 < (v30_3 - v30_3 / 3 * 3) then (1 : Int32) else (if (f_L_causes u52_0 gn_30 gu_30 gb_30 ga_30 u52_8) = 0 then (0 : Int32) else (1 : Int32)))))))) (if j53 = 0 then (0 : Int32) else (if j40 = 0 then (if (f_X4_events u52_1) = ((f_X4_events lc_30) + 1) then (1 : Int32) else (0 : Int32)) else (if (f_X4_events u52_1) = ((f_X4_events lc_30) + 3) then (1 : Int32) else (0 : Int32)))))) (if r52 = (-103) then (1 : Int32) else (0 : Int32))))))) else (match f_L_clear xr_30 xt_30 lc_30 lk_30 ln_30 lt_30 ll_30 lr_30 tw_30 tn_30 (((f_L_cell L xs v30_3) / 8) - ((f_L_cell L xs v30_3) / 8) / 14 * 14) with | (r72, u72_0, u72_1, u72_2, u72_3, u72_4, u72_5, u72_6) => (if r72 < 0 then f_L_law_L30 xs L n 0 (v30_3 + 1) u72_0 xt_30 gn_30 gu_30 gb_30 ga_30 u72_1 u72_2 u72_3 u72_4 u72_5 lr_30 tw_30 u72_6 tt_30 else (if (f_L_ticket u72_6 (((f_L_cell L xs v30_3) / 8) - ((f_L_cell L xs v30_3) / 8) / 14 * 14)) = (-1) then (match f_L_raise u72_0 xt_30 gb_30 ga_30 u72_1 u72_2 u72_3 u72_4 u72_5 lr_30 tw_30 u72_6 tt_30 (((f_L_cell L xs v30_3) / 8) - ((f_L_cell L xs v30_3) / 8) / 14 * 14) with | (r80, u80_0, u80_1, u80_2, u80_3, u80_4, u80_5, u80_6, u80_7, u80_8, u80_9) => (if r80 ≤ 0 then f_L_law_L30 xs L n 0 (v30_3 + 1) u80_0 xt_30 gn_30 gu_30 gb_30 ga_30 u80_1 u80_2 u80_3 u80_4 u80_5 u80_6 u80_7 u80_8 u80_9 else (match f_L_clear u80_0 xt_30 u80_1 u80_2 u80_3 u80_4 u80_5 u80_6 u80_7 u80_8 (((f_L_cell L xs v30_3) / 8) - ((f_L_cell L xs v30_3) / 8) / 14 * 14) with | (r84, u84_0, u84_1, u84_2, u84_3, u84_4, u84_5, u84_6) => ((fun (j85 : Int32) => ((fun (j87 : Int32) => ((fun (j93 : Int32) => f_L_law_L30 xs L n j93 (v30_3 + 1) u84_0 xt_30 gn_30 gu_30 gb_30 ga_30 u84_1 u84_2 u84_3 u84_4 u84_5 u80_6 u80_7 u84_6 u80_9) (if j87 = 0 then (0 : Int32) else (if 0 < (v30_3 - v30_3 / 5 * 5) then (if 0 < (v30_3 - v30_3 / 3 * 3) then (1 : Int32) else (if (f_L_causes u84_0 gn_30 gu_30 gb_30 ga_30 u84_6) = 0 then (0 : Int32) else (1 : Int32))) else (if (f_L_hangs gn_30 gb_30) = 0 then (0 : Int32) else (if 0 < (v30_3 - v30_3 / 3 * 3) then (1 : Int32) else (if (f_L_causes u84_0 gn_30 gu_30 gb_30 ga_30 u84_6) = 0 then (0 : Int32) else (1 : Int32)))))))) (if j85 = 0 then (0 : Int32) else (if j40 = 0 then (if (f_X4_events u84_1) = ((f_X4_events lc_30) + 1) then (1 : Int32) else (0 : Int32)) else (if (f_X4_events u84_1) = ((f_X4_events lc_30) + 3) then (1 : Int32) else (0 : Int32)))))) (if r84 < 0 then (0 : Int32) else (1 : Int32)))))) else f_L_law_L30 xs L n 0 (v30_3 + 1) u72_0 xt_30 gn_30 gu_30 gb_30 ga_30 u72_1 u72_2 u72_3 u72_4 u72_5 lr_30 tw_30 u72_6 tt_30))))) (if (f_L_ticket tn_30 (((f_L_cell L xs v30_3) / 8) - ((f_L_cell L xs v30_3) / 8) / 14 * 14)) ≤ 0 then (0 : Int32) else (1 : Int32))))) else ((fun (j137 : Int32) => (match f_L_need gn_30 gu_30 gb_30 ga_30 (((f_L_cell L xs v30_3) / 8) - ((f_L_cell L xs v30_3) / 8) / 14 * 14) y11_7 with | (r141, u141_0, u141_1, u141_2, u141_3) => ((fun (j142 : Int32) => ((fun (j144 : Int32) => ((fun (j149 : Int32) => f_L_law_L30 xs L n j149 (v30_3 + 1) xr_30 xt_30 u141_0 u141_1 u141_2 u141_3 lc_30 lk_30 ln_30 lt_30 ll_30 lr_30 tw_30 tn_30 tt_30) (if j144 = 0 then (0 : Int32) else (if 0 < (v30_3 - v30_3 / 5 * 5) then (if 0 < (v30_3 - v30_3 / 3 * 3) then (1 : Int32) else (if (f_L_causes xr_30 u141_0 u141_1 u141_2 u141_3 tn_30) = 0 then (0 : Int32) else (1 : Int32))) else (if (f_L_hangs u141_0 u141_2) = 0 then (0 : Int32) else (if 0 < (v30_3 - v30_3 / 3 * 3) then (1 : Int32) else (if (f_L_causes xr_30 u141_0 u141_1 u141_2 u141_3 tn_30) = 0 then (0 : Int32) else (1 : Int32)))))))) (if j142 = j137 then (if (f_L_needs u141_0 (((f_L_cell L xs v30_3) / 8) - ((f_L_cell L xs v30_3) / 8) / 14 * 14) y11_7) = 1 then (1 : Int32) else (if j137 = 0 then (1 : Int32) else (0 : Int32))) else (0 : Int32)))) (if r141 < 0 then (0 : Int32) else (1 : Int32))))) (if (((f_L_cell L xs v30_3) / 8) - ((f_L_cell L xs v30_3) / 8) / 14 * 14) = y11_7 then (0 : Int32) else (if (f_L_depends gb_30 y11_7 (((f_L_cell L xs v30_3) / 8) - ((f_L_cell L xs v30_3) / 8) / 14 * 14)) = 0 then (1 : Int32) else (0 : Int32))))))) ((((f_L_cell L xs v30_3) / 8) / 14) - (((f_L_cell L xs v30_3) / 8) / 14) / 14 * 14))))
def p_L_law_L30 (xs : AA) (L : Nat) : Nat → Int32 → Int32 → Int32 → Int32 → AA → AA → AA → AA → Int32 → AA → AA → AA → AA → AA → Int32 → AA → AA → Prop
  | 0, _, _, _, _, _, _, _, _, _, _, _, _, _, _, _, _, _ => False
  | n + 1, v30_2, v30_3, xr_30, xt_30, gn_30, gu_30, gb_30, ga_30, lc_30, lk_30, ln_30, lt_30, ll_30, lr_30, tw_30, tn_30, tt_30 => ((40 ≤ v30_3 → True) ∧ (¬ (40 ≤ v30_3) → ((v30_2 = 0 → True) ∧ (¬ (v30_2 = 0) → (p_L_cell L xs v30_3 ∧ (∀ (y11_7 : Int32), ((((f_L_cell L xs v30_3) / 8) / 14) - (((f_L_cell L xs v30_3) / 8) / 14) / 14 * 14) = y11_7 → ((((f_L_cell L xs v30_3) - (f_L_cell L xs v30_3) / 8 * 8) < 2 → ((((((f_L_cell L xs v30_3) / 8) - ((f_L_cell L xs v30_3) / 8) / 14 * 14) = y11_7 → True) ∧ (¬ ((((f_L_cell L xs v30_3) / 8) - ((f_L_cell L xs v30_3) / 8) / 14 * 14) = y11_7) → (p_L_depends gb_30 y11_7 (((f_L_cell L xs v30_3) / 8) - ((f_L_cell L xs v30_3) / 8) / 14 * 14) ∧ (((f_L_depends gb_30 y11_7 (((f_L_cell L xs v30_3) / 8) - ((f_L_cell L xs v30_3) / 8) / 14 * 14)) = 0 → True) ∧ (¬ ((f_L_depends gb_30 y11_7 (((f_L_cell L xs v30_3) / 8) - ((f_L_cell L xs v30_3) / 8) / 14 * 14)) = 0) → True))))) ∧ ∀ (j13 : Int32), (if (((f_L_cell L xs v30_3) / 8) - ((f_L_cell L xs v30_3) / 8) / 14 * 14) = y11_7 then (0 : Int32) else (if (f_L_depends gb_30 y11_7 (((f_L_cell L xs v30_3) / 8) - ((f_L_cell L xs v30_3) / 8) / 14 * 14)) = 0 then (1 : Int32) else (0 : Int32))) = j13 → (p_L_need gn_30 gu_30 gb_30 ga_30 (((f_L_cell L xs v30_3) / 8) - ((f_L_cell L xs v30_3) / 8) / 14 * 14) y11_7 ∧ ∀ (r17 : Int32) (u17_0 : AA) (u17_1 : AA) (u17_2 : AA) (u17_3 : AA), f_L_need gn_30 gu_30 gb_30 ga_30 (((f_L_cell L xs v30_3) / 8) - ((f_L_cell L xs v30_3) / 8) / 14 * 14) y11_7 = (r17, u17_0, u17_1, u17_2, u17_3) → (((r17 < 0 → True) ∧ (¬ (r17 < 0) → True)) ∧ ∀ (j18 : Int32), (if r17 < 0 then (0 : Int32) else (1 : Int32)) = j18 → (((j18 = j13 → (p_L_needs u17_0 (((f_L_cell L xs v30_3) / 8) - ((f_L_cell L xs v30_3) / 8) / 14 * 14) y11_7 ∧ (((f_L_needs u17_0 (((f_L_cell L xs v30_3) / 8) - ((f_L_cell L xs v30_3) / 8) / 14 * 14) y11_7) = 1 → True) ∧ (¬ ((f_L_needs u17_0 (((f_L_cell L xs v30_3) / 8) - ((f_L_cell L xs v30_3) / 8) / 14 * 14) y11_7) = 1) → ((j13 = 0 → True) ∧ (¬ (j13 = 0) → True)))))) ∧ (¬ (j18 = j13) → True)) ∧ ∀ (j20 : Int32), (if j18 = j13 then (if (f_L_needs u17_0 (((f_L_cell L xs v30_3) / 8) - ((f_L_cell L xs v30_3) / 8) / 14 * 14) y11_7) = 1 then (1 : Int32) else (if j13 = 0 then (1 : Int32) else (0 : Int32))) else (0 : Int32)) = j20 → (((j20 = 0 → True) ∧ (¬ (j20 = 0) → ((0 < (v30_3 - v30_3 / 5 * 5) → ((0 < (v30_3 - v30_3 / 3 * 3) → True) ∧ (¬ (0 < (v30_3 - v30_3 / 3 * 3)) → (p_L_causes xr_30 u17_0 u17_1 u17_2 u17_3 tn_30 ∧ (((f_L_causes xr_30 u17_0 u17_1 u17_2 u17_3 tn_30) = 0 → True) ∧ (¬ ((f_L_causes xr_30 u17_0 u17_1 u17_2 u17_3 tn_30) = 0) → True)))))) ∧ (¬ (0 < (v30_3 - v30_3 / 5 * 5)) → (p_L_hangs u17_0 u17_2 ∧ (((f_L_hangs u17_0 u17_2) = 0 → True) ∧ (¬ ((f_L_hangs u17_0 u17_2) = 0) → ((0 < (v30_3 - v30_3 / 3 * 3) → True) ∧ (¬ (0 < (v30_3 - v30_3 / 3 * 3)) → (p_L_causes xr_30 u17_0 u17_1 u17_2 u17_3 tn_30 ∧ (((f_L_causes xr_30 u17_0 u17_1 u17_2 u17_3 tn_30) = 0 → True) ∧ (¬ ((f_L_causes xr_30 u17_0 u17_1 u17_2 u17_3 tn_30) = 0) → True)))))))))))) ∧ ∀ (j25 : Int32), (if j20 = 0 then (0 : Int32) else (if 0 < (v30_3 - v30_3 / 5 * 5) then (if 0 < (v30_3 - v30_3 / 3 * 3) then (1 : Int32) else (if (f_L_causes xr_30 u17_0 u17_1 u17_2 u17_3 tn_30) = 0 then (0 : Int32) else (1 : Int32))) else (if (f_L_hangs u17_0 u17_2) = 0 then (0 : Int32) else (if 0 < (v30_3 - v30_3 / 3 * 3) then (1 : Int32) else (if (f_L_causes xr_30 u17_0 u17_1 u17_2 u17_3 tn_30) = 0 then (0 : Int32) else (1 : Int32)))))) = j25 → p_L_law_L30 xs L n j25 (v30_3 + 1) xr_30 xt_30 u17_0 u17_1 u17_2 u17_3 lc_30 lk_30 ln_30 lt_30 ll_30 lr_30 tw_30 tn_30 tt_30)))))) ∧ (¬ (((f_L_cell L xs v30_3) - (f_L_cell L xs v30_3) / 8 * 8) < 2) → ((10 ≤ v30_3 → ((((f_L_cell L xs v30_3) - (f_L_cell L xs v30_3) / 8 * 8) = 2 → (p_L_needs gn_30 (((f_L_cell L xs v30_3) / 8) - ((f_L_cell L xs v30_3) / 8) / 14 * 14) y11_7 ∧ (∀ (y120_8 : Int32), (f_L_needs gn_30 (((f_L_cell L xs v30_3) / 8) - ((f_L_cell L xs v30_3) / 8) / 14 * 14) y11_7) = y120_8 → (p_L_release gn_30 gu_30 gb_30 ga_30 (((f_L_cell L xs v30_3) / 8) - ((f_L_cell L xs v30_3) / 8) / 14 * 14) y11_7 ∧ ∀ (r121 : Int32) (u121_0 : AA) (u121_1 : AA) (u121_2 : AA) (u121_3 : AA), f_L_release gn_30 gu_30 gb_30 ga_30 (((f_L_cell L xs v30_3) / 8) - ((f_L_cell L xs v30_3) / 8) / 14 * 14) y11_7 = (r121, u121_0, u121_1, u121_2, u121_3) → (((r121 = y120_8 → (p_L_needs u121_0 (((f_L_cell L xs v30_3) / 8) - ((f_L_cell L xs v30_3) / 8) / 14 * 14) y11_7 ∧ (((f_L_needs u121_0 (((f_L_cell L xs v30_3) / 8) - ((f_L_cell L xs v30_3) / 8) / 14 * 14) y11_7) = 0 → True) ∧ (¬ ((f_L_needs u121_0 (((f_L_cell L xs v30_3) / 8) - ((f_L_cell L xs v30_3) / 8) / 14 * 14) y11_7) = 0) → True)))) ∧ (¬ (r121 = y120_8) → True)) ∧ ∀ (j122 : Int32), (if r121 = y120_8 then (if (f_L_needs u121_0 (((f_L_cell L xs v30_3) / 8) - ((f_L_cell L xs v30_3) / 8) / 14 * 14) y11_7) = 0 then (1 : Int32) else (0 : Int32)) else (0 : Int32)) = j122 → (((j122 = 0 → True) ∧ (¬ (j122 = 0) → ((0 < (v30_3 - v30_3 / 5 * 5) → ((0 < (v30_3 - v30_3 / 3 * 3) → True) ∧ (¬ (0 < (v30_3 - v30_3 / 3 * 3)) → (p_L_causes xr_30 u121_0 u121_1 u121_2 u121_3 tn_30 ∧ (((f_L_causes xr_30 u121_0 u121_1 u121_2 u121_3 tn_30) = 0 → True) ∧ (¬ ((f_L_causes xr_30 u121_0 u121_1 u121_2 u121_3 tn_30) = 0) → True)))))) ∧ (¬ (0 < (v30_3 - v30_3 / 5 * 5)) → (p_L_hangs u121_0 u121_2 ∧ (((f_L_hangs u121_0 u121_2) = 0 → True) ∧ (¬ ((f_L_hangs u121_0 u121_2) = 0) → ((0 < (v30_3 - v30_3 / 3 * 3) → True) ∧ (¬ (0 < (v30_3 - v30_3 / 3 * 3)) → (p_L_causes xr_30 u121_0 u121_1 u121_2 u121_3 tn_30 ∧ (((f_L_causes xr_30 u121_0 u121_1 u121_2 u121_3 tn_30) = 0 → True) ∧ (¬ ((f_L_causes xr_30 u121_0 u121_1 u121_2 u121_3 tn_30) = 0) → True)))))))))))) ∧ ∀ (j126 : Int32), (if j122 = 0 then (0 : Int32) else (if 0 < (v30_3 - v30_3 / 5 * 5) then (if 0 < (v30_3 - v30_3 / 3 * 3) then (1 : Int32) else (if (f_L_causes xr_30 u121_0 u121_1 u121_2 u121_3 tn_30) = 0 then (0 : Int32) else (1 : Int32))) else (if (f_L_hangs u121_0 u121_2) = 0 then (0 : Int32) else (if 0 < (v30_3 - v30_3 / 3 * 3) then (1 : Int32) else (if (f_L_causes xr_30 u121_0 u121_1 u121_2 u121_3 tn_30) = 0 then (0 : Int32) else (1 : Int32)))))) = j126 → p_L_law_L30 xs L n j126 (v30_3 + 1) xr_30 xt_30 u121_0 u121_1 u121_2 u121_3 lc_30 lk_30 ln_30 lt_30 ll_30 lr_30 tw_30 tn_30 tt_30)))))) ∧ (¬ (((f_L_cell L xs v30_3) - (f_L_cell L xs v30_3) / 8 * 8) = 2) → ((((f_L_cell L xs v30_3) - (f_L_cell L xs v30_3) / 8 * 8) = 3 → (∀ (r105 : Int32) (u105_0 : Int32), f_L_tick xt_30 (1 + (((f_L_cell L xs v30_3) / 8) - ((f_L_cell L xs v30_3) / 8) / 100 * 100)) = (r105, u105_0) → (((r105 = (((f_X4_now xt_30) + 1) + (((f_L_cell L xs v30_3) / 8) - ((f_L_cell L xs v30_3) / 8) / 100 * 100)) → True) ∧ (¬ (r105 = (((f_X4_now xt_30) + 1) + (((f_L_cell L xs v30_3) / 8) - ((f_L_cell L xs v30_3) / 8) / 100 * 100))) → True)) ∧ ∀ (j106 : Int32), (if r105 = (((f_X4_now xt_30) + 1) + (((f_L_cell L xs v30_3) / 8) - ((f_L_cell L xs v30_3) / 8) / 100 * 100)) then (1 : Int32) else (0 : Int32)) = j106 → (((j106 = 0 → True) ∧ (¬ (j106 = 0) → ((0 < (v30_3 - v30_3 / 5 * 5) → ((0 < (v30_3 - v30_3 / 3 * 3) → True) ∧ (¬ (0 < (v30_3 - v30_3 / 3 * 3)) → (p_L_causes xr_30 gn_30 gu_30 gb_30 ga_30 tn_30 ∧ (((f_L_causes xr_30 gn_30 gu_30 gb_30 ga_30 tn_30) = 0 → True) ∧ (¬ ((f_L_causes xr_30 gn_30 gu_30 gb_30 ga_30 tn_30) = 0) → True)))))) ∧ (¬ (0 < (v30_3 - v30_3 / 5 * 5)) → (p_L_hangs gn_30 gb_30 ∧ (((f_L_hangs gn_30 gb_30) = 0 → True) ∧ (¬ ((f_L_hangs gn_30 gb_30) = 0) → ((0 < (v30_3 - v30_3 / 3 * 3) → True) ∧ (¬ (0 < (v30_3 - v30_3 / 3 * 3)) → (p_L_causes xr_30 gn_30 gu_30 gb_30 ga_30 tn_30 ∧ (((f_L_causes xr_30 gn_30 gu_30 gb_30 ga_30 tn_30) = 0 → True) ∧ (¬ ((f_L_causes xr_30 gn_30 gu_30 gb_30 ga_30 tn_30) = 0) → True)))))))))))) ∧ ∀ (j108 : Int32), (if j106 = 0 then (0 : Int32) else (if 0 < (v30_3 - v30_3 / 5 * 5) then (if 0 < (v30_3 - v30_3 / 3 * 3) then (1 : Int32) else (if (f_L_causes xr_30 gn_30 gu_30 gb_30 ga_30 tn_30) = 0 then (0 : Int32) else (1 : Int32))) else (if (f_L_hangs gn_30 gb_30) = 0 then (0 : Int32) else (if 0 < (v30_3 - v30_3 / 3 * 3) then (1 : Int32) else (if (f_L_causes xr_30 gn_30 gu_30 gb_30 ga_30 tn_30) = 0 then (0 : Int32) else (1 : Int32)))))) = j108 → p_L_law_L30 xs L n j108 (v30_3 + 1) xr_30 u105_0 gn_30 gu_30 gb_30 ga_30 lc_30 lk_30 ln_30 lt_30 ll_30 lr_30 tw_30 tn_30 tt_30)))) ∧ (¬ (((f_L_cell L xs v30_3) - (f_L_cell L xs v30_3) / 8 * 8) = 3) → (p_L_ticket tn_30 (((f_L_cell L xs v30_3) / 8) - ((f_L_cell L xs v30_3) / 8) / 14 * 14) ∧ ((((f_L_ticket tn_30 (((f_L_cell L xs v30_3) / 8) - ((f_L_cell L xs v30_3) / 8) / 14 * 14)) ≤ 0 → True) ∧ (¬ ((f_L_ticket tn_30 (((f_L_cell L xs v30_3) / 8) - ((f_L_cell L xs v30_3) / 8) / 14 * 14)) ≤ 0) → True)) ∧ ∀ (j40 : Int32), (if (f_L_ticket tn_30 (((f_L_cell L xs v30_3) / 8) - ((f_L_cell L xs v30_3) / 8) / 14 * 14)) ≤ 0 then (0 : Int32) else (1 : Int32)) = j40 → ((j40 = 0 → (p_L_raise xr_30 xt_30 gb_30 ga_30 lc_30 lk_30 ln_30 lt_30 ll_30 lr_30 tw_30 tn_30 tt_30 (((f_L_cell L xs v30_3) / 8) - ((f_L_cell L xs v30_3) / 8) / 14 * 14) ∧ ∀ (r44 : Int32) (u44_0 : Int32) (u44_1 : Int32) (u44_2 : AA) (u44_3 : AA) (u44_4 : AA) (u44_5 : AA) (u44_6 : AA) (u44_7 : Int32) (u44_8 : AA) (u44_9 : AA), f_L_raise xr_30 xt_30 gb_30 ga_30 lc_30 lk_30 ln_30 lt_30 ll_30 lr_30 tw_30 tn_30 tt_30 (((f_L_cell L xs v30_3) / 8) - ((f_L_cell L xs v30_3) / 8) / 14 * 14) = (r44, u44_0, u44_1, u44_2, u44_3, u44_4, u44_5, u44_6, u44_7, u44_8, u44_9) → ((r44 ≤ 0 → p_L_law_L30 xs L n 0 (v30_3 + 1) u44_0 xt_30 gn_30 gu_30 gb_30 ga_30 u44_1 u44_2 u44_3 u44_4 u44_5 u44_6 u44_7 u44_8 u44_9) ∧ (¬ (r44 ≤ 0) → (p_L_ticket u44_8 (((f_L_cell L xs v30_3) / 8) - ((f_L_cell L xs v30_3) / 8) / 14 * 14) ∧ (((f_L_ticket u44_8 (((f_L_cell L xs v30_3) / 8) - ((f_L_cell L xs v30_3) / 8) / 14 * 14)) ≤ 0 → p_L_law_L30 xs L n 0 (v30_3 + 1) u44_0 xt_30 gn_30 gu_30 gb_30 ga_30 u44_1 u44_2 u44_3 u44_4 u44_5 u44_6 u44_7 u44_8 u44_9) ∧ (¬ ((f_L_ticket u44_8 (((f_L_cell L xs v30_3) / 8) - ((f_L_cell L xs v30_3) / 8) / 14 * 14)) ≤ 0) → (p_L_raise u44_0 xt_30 gb_30 ga_30 u44_1 u44_2 u44_3 u44_4 u44_5 u44_6 u44_7 u44_8 u44_9 (((f_L_cell L xs v30_3) / 8) - ((f_L_cell L xs v30_3) / 8) / 14 * 14) ∧ ∀ (r52 : Int32) (u52_0 : Int32) (u52_1 : Int32) (u52_2 : AA) (u52_3 : AA) (u52_4 : AA) (u52_5 : AA) (u52_6 : AA) (u52_7 : Int32) (u52_8 : AA) (u52_9 : AA), f_L_raise u44_0 xt_30 gb_30 ga_30 u44_1 u44_2 u44_3 u44_4 u44_5 u44_6 u44_7 u44_8 u44_9 (((f_L_cell L xs v30_3) / 8) - ((f_L_cell L xs v30_3) / 8) / 14 * 14) = (r52, u52_0, u52_1, u52_2, u52_3, u52_4, u52_5, u52_6, u52_7, u52_8, u52_9) → (((r52 = (-103) → True) ∧ (¬ (r52 = (-103)) → True)) ∧ ∀ (j53 : Int32), (if r52 = (-103) then (1 : Int32) else (0 : Int32)) = j53 → (((j53 = 0 → True) ∧ (¬ (j53 = 0) → ((j40 = 0 → (((f_X4_events u52_1) = ((f_X4_events lc_30) + 1) → True) ∧ (¬ ((f_X4_events u52_1) = ((f_X4_events lc_30) + 1)) → True))) ∧ (¬ (j40 = 0) → (((f_X4_events u52_1) = ((f_X4_events lc_30) + 3) → True) ∧ (¬ ((f_X4_events u52_1) = ((f_X4_events lc_30) + 3)) → True)))))) ∧ ∀ (j55 : Int32), (if j53 = 0 then (0 : Int32) else (if j40 = 0 then (if (f_X4_events u52_1) = ((f_X4_events lc_30) + 1) then (1 : Int32) else (0 : Int32)) else (if (f_X4_events u52_1) = ((f_X4_events lc_30) + 3) then (1 : Int32) else (0 : Int32)))) = j55 → (((j55 = 0 → True) ∧ (¬ (j55 = 0) → ((0 < (v30_3 - v30_3 / 5 * 5) → ((0 < (v30_3 - v30_3 / 3 * 3) → True) ∧ (¬ (0 < (v30_3 - v30_3 / 3 * 3)) → (p_L_causes u52_0 gn_30 gu_30 gb_30 ga_30 u52_8 ∧ (((f_L_causes u52_0 gn_30 gu_30 gb_30 ga_30 u52_8) = 0 → True) ∧ (¬ ((f_L_causes u52_0 gn_30 gu_30 gb_30 ga_30 u52_8) = 0) → True)))))) ∧ (¬ (0 < (v30_3 - v30_3 / 5 * 5)) → (p_L_hangs gn_30 gb_30 ∧ (((f_L_hangs gn_30 gb_30) = 0 → True) ∧ (¬ ((f_L_hangs gn_30 gb_30) = 0) → ((0 < (v30_3 - v30_3 / 3 * 3) → True) ∧ (¬ (0 < (v30_3 - v30_3 / 3 * 3)) → (p_L_causes u52_0 gn_30 gu_30 gb_30 ga_30 u52_8 ∧ (((f_L_causes u52_0 gn_30 gu_30 gb_30 ga_30 u52_8) = 0 → True) ∧ (¬ ((f_L_causes u52_0 gn_30 gu_30 gb_30 ga_30 u52_8) = 0) → True)))))))))))) ∧ ∀ (j61 : Int32), (if j55 = 0 then (0 : Int32) else (if 0 < (v30_3 - v30_3 / 5 * 5) then (if 0 < (v30_3 - v30_3 / 3 * 3) then (1 : Int32) else (if (f_L_causes u52_0 gn_30 gu_30 gb_30 ga_30 u52_8) = 0 then (0 : Int32) else (1 : Int32))) else (if (f_L_hangs gn_30 gb_30) = 0 then (0 : Int32) else (if 0 < (v30_3 - v30_3 / 3 * 3) then (1 : Int32) else (if (f_L_causes u52_0 gn_30 gu_30 gb_30 ga_30 u52_8) = 0 then (0 : Int32) else (1 : Int32)))))) = j61 → p_L_law_L30 xs L n j61 (v30_3 + 1) u52_0 xt_30 gn_30 gu_30 gb_30 ga_30 u52_1 u52_2 u52_3 u52_4 u52_5 u52_6 u52_7 u52_8 u52_9))))))))))) ∧ (¬ (j40 = 0) → (p_L_clear xr_30 xt_30 lc_30 lk_30 ln_30 lt_30 ll_30 lr_30 tw_30 tn_30 (((f_L_cell L xs v30_3) / 8) - ((f_L_cell L xs v30_3) / 8) / 14 * 14) ∧ ∀ (r72 : Int32) (u72_0 : Int32) (u72_1 : Int32) (u72_2 : AA) (u72_3 : AA) (u72_4 : AA) (u72_5 : AA) (u72_6 : AA), f_L_clear xr_30 xt_30 lc_30 lk_30 ln_30 lt_30 ll_30 lr_30 tw_30 tn_30 (((f_L_cell L xs v30_3) / 8) - ((f_L_cell L xs v30_3) / 8) / 14 * 14) = (r72, u72_0, u72_1, u72_2, u72_3, u72_4, u72_5, u72_6) → ((r72 < 0 → p_L_law_L30 xs L n 0 (v30_3 + 1) u72_0 xt_30 gn_30 gu_30 gb_30 ga_30 u72_1 u72_2 u72_3 u72_4 u72_5 lr_30 tw_30 u72_6 tt_30) ∧ (¬ (r72 < 0) → (p_L_ticket u72_6 (((f_L_cell L xs v30_3) / 8) - ((f_L_cell L xs v30_3) / 8) / 14 * 14) ∧ (((f_L_ticket u72_6 (((f_L_cell L xs v30_3) / 8) - ((f_L_cell L xs v30_3) / 8) / 14 * 14)) = (-1) → (p_L_raise u72_0 xt_30 gb_30 ga_30 u72_1 u72_2 u72_3 u72_4 u72_5 lr_30 tw_30 u72_6 tt_30 (((f_L_cell L xs v30_3) / 8) - ((f_L_cell L xs v30_3) / 8) / 14 * 14) ∧ ∀ (r80 : Int32) (u80_0 : Int32) (u80_1 : Int32) (u80_2 : AA) (u80_3 : AA) (u80_4 : AA) (u80_5 : AA) (u80_6 : AA) (u80_7 : Int32) (u80_8 : AA) (u80_9 : AA), f_L_raise u72_0 xt_30 gb_30 ga_30 u72_1 u72_2 u72_3 u72_4 u72_5 lr_30 tw_30 u72_6 tt_30 (((f_L_cell L xs v30_3) / 8) - ((f_L_cell L xs v30_3) / 8) / 14 * 14) = (r80, u80_0, u80_1, u80_2, u80_3, u80_4, u80_5, u80_6, u80_7, u80_8, u80_9) → ((r80 ≤ 0 → p_L_law_L30 xs L n 0 (v30_3 + 1) u80_0 xt_30 gn_30 gu_30 gb_30 ga_30 u80_1 u80_2 u80_3 u80_4 u80_5 u80_6 u80_7 u80_8 u80_9) ∧ (¬ (r80 ≤ 0) → (p_L_clear u80_0 xt_30 u80_1 u80_2 u80_3 u80_4 u80_5 u80_6 u80_7 u80_8 (((f_L_cell L xs v30_3) / 8) - ((f_L_cell L xs v30_3) / 8) / 14 * 14) ∧ ∀ (r84 : Int32) (u84_0 : Int32) (u84_1 : Int32) (u84_2 : AA) (u84_3 : AA) (u84_4 : AA) (u84_5 : AA) (u84_6 : AA), f_L_clear u80_0 xt_30 u80_1 u80_2 u80_3 u80_4 u80_5 u80_6 u80_7 u80_8 (((f_L_cell L xs v30_3) / 8) - ((f_L_cell L xs v30_3) / 8) / 14 * 14) = (r84, u84_0, u84_1, u84_2, u84_3, u84_4, u84_5, u84_6) → (((r84 < 0 → True) ∧ (¬ (r84 < 0) → True)) ∧ ∀ (j85 : Int32), (if r84 < 0 then (0 : Int32) else (1 : Int32)) = j85 → (((j85 = 0 → True) ∧ (¬ (j85 = 0) → ((j40 = 0 → (((f_X4_events u84_1) = ((f_X4_events lc_30) + 1) → True) ∧ (¬ ((f_X4_events u84_1) = ((f_X4_events lc_30) + 1)) → True))) ∧ (¬ (j40 = 0) → (((f_X4_events u84_1) = ((f_X4_events lc_30) + 3) → True) ∧ (¬ ((f_X4_events u84_1) = ((f_X4_events lc_30) + 3)) → True)))))) ∧ ∀ (j87 : Int32), (if j85 = 0 then (0 : Int32) else (if j40 = 0 then (if (f_X4_events u84_1) = ((f_X4_events lc_30) + 1) then (1 : Int32) else (0 : Int32)) else (if (f_X4_events u84_1) = ((f_X4_events lc_30) + 3) then (1 : Int32) else (0 : Int32)))) = j87 → (((j87 = 0 → True) ∧ (¬ (j87 = 0) → ((0 < (v30_3 - v30_3 / 5 * 5) → ((0 < (v30_3 - v30_3 / 3 * 3) → True) ∧ (¬ (0 < (v30_3 - v30_3 / 3 * 3)) → (p_L_causes u84_0 gn_30 gu_30 gb_30 ga_30 u84_6 ∧ (((f_L_causes u84_0 gn_30 gu_30 gb_30 ga_30 u84_6) = 0 → True) ∧ (¬ ((f_L_causes u84_0 gn_30 gu_30 gb_30 ga_30 u84_6) = 0) → True)))))) ∧ (¬ (0 < (v30_3 - v30_3 / 5 * 5)) → (p_L_hangs gn_30 gb_30 ∧ (((f_L_hangs gn_30 gb_30) = 0 → True) ∧ (¬ ((f_L_hangs gn_30 gb_30) = 0) → ((0 < (v30_3 - v30_3 / 3 * 3) → True) ∧ (¬ (0 < (v30_3 - v30_3 / 3 * 3)) → (p_L_causes u84_0 gn_30 gu_30 gb_30 ga_30 u84_6 ∧ (((f_L_causes u84_0 gn_30 gu_30 gb_30 ga_30 u84_6) = 0 → True) ∧ (¬ ((f_L_causes u84_0 gn_30 gu_30 gb_30 ga_30 u84_6) = 0) → True)))))))))))) ∧ ∀ (j93 : Int32), (if j87 = 0 then (0 : Int32) else (if 0 < (v30_3 - v30_3 / 5 * 5) then (if 0 < (v30_3 - v30_3 / 3 * 3) then (1 : Int32) else (if (f_L_causes u84_0 gn_30 gu_30 gb_30 ga_30 u84_6) = 0 then (0 : Int32) else (1 : Int32))) else (if (f_L_hangs gn_30 gb_30) = 0 then (0 : Int32) else (if 0 < (v30_3 - v30_3 / 3 * 3) then (1 : Int32) else (if (f_L_causes u84_0 gn_30 gu_30 gb_30 ga_30 u84_6) = 0 then (0 : Int32) else (1 : Int32)))))) = j93 → p_L_law_L30 xs L n j93 (v30_3 + 1) u84_0 xt_30 gn_30 gu_30 gb_30 ga_30 u84_1 u84_2 u84_3 u84_4 u84_5 u80_6 u80_7 u84_6 u80_9)))))))) ∧ (¬ ((f_L_ticket u72_6 (((f_L_cell L xs v30_3) / 8) - ((f_L_cell L xs v30_3) / 8) / 14 * 14)) = (-1)) → p_L_law_L30 xs L n 0 (v30_3 + 1) u72_0 xt_30 gn_30 gu_30 gb_30 ga_30 u72_1 u72_2 u72_3 u72_4 u72_5 lr_30 tw_30 u72_6 tt_30))))))))))))))) ∧ (¬ (10 ≤ v30_3) → ((((((f_L_cell L xs v30_3) / 8) - ((f_L_cell L xs v30_3) / 8) / 14 * 14) = y11_7 → True) ∧ (¬ ((((f_L_cell L xs v30_3) / 8) - ((f_L_cell L xs v30_3) / 8) / 14 * 14) = y11_7) → (p_L_depends gb_30 y11_7 (((f_L_cell L xs v30_3) / 8) - ((f_L_cell L xs v30_3) / 8) / 14 * 14) ∧ (((f_L_depends gb_30 y11_7 (((f_L_cell L xs v30_3) / 8) - ((f_L_cell L xs v30_3) / 8) / 14 * 14)) = 0 → True) ∧ (¬ ((f_L_depends gb_30 y11_7 (((f_L_cell L xs v30_3) / 8) - ((f_L_cell L xs v30_3) / 8) / 14 * 14)) = 0) → True))))) ∧ ∀ (j137 : Int32), (if (((f_L_cell L xs v30_3) / 8) - ((f_L_cell L xs v30_3) / 8) / 14 * 14) = y11_7 then (0 : Int32) else (if (f_L_depends gb_30 y11_7 (((f_L_cell L xs v30_3) / 8) - ((f_L_cell L xs v30_3) / 8) / 14 * 14)) = 0 then (1 : Int32) else (0 : Int32))) = j137 → (p_L_need gn_30 gu_30 gb_30 ga_30 (((f_L_cell L xs v30_3) / 8) - ((f_L_cell L xs v30_3) / 8) / 14 * 14) y11_7 ∧ ∀ (r141 : Int32) (u141_0 : AA) (u141_1 : AA) (u141_2 : AA) (u141_3 : AA), f_L_need gn_30 gu_30 gb_30 ga_30 (((f_L_cell L xs v30_3) / 8) - ((f_L_cell L xs v30_3) / 8) / 14 * 14) y11_7 = (r141, u141_0, u141_1, u141_2, u141_3) → (((r141 < 0 → True) ∧ (¬ (r141 < 0) → True)) ∧ ∀ (j142 : Int32), (if r141 < 0 then (0 : Int32) else (1 : Int32)) = j142 → (((j142 = j137 → (p_L_needs u141_0 (((f_L_cell L xs v30_3) / 8) - ((f_L_cell L xs v30_3) / 8) / 14 * 14) y11_7 ∧ (((f_L_needs u141_0 (((f_L_cell L xs v30_3) / 8) - ((f_L_cell L xs v30_3) / 8) / 14 * 14) y11_7) = 1 → True) ∧ (¬ ((f_L_needs u141_0 (((f_L_cell L xs v30_3) / 8) - ((f_L_cell L xs v30_3) / 8) / 14 * 14) y11_7) = 1) → ((j137 = 0 → True) ∧ (¬ (j137 = 0) → True)))))) ∧ (¬ (j142 = j137) → True)) ∧ ∀ (j144 : Int32), (if j142 = j137 then (if (f_L_needs u141_0 (((f_L_cell L xs v30_3) / 8) - ((f_L_cell L xs v30_3) / 8) / 14 * 14) y11_7) = 1 then (1 : Int32) else (if j137 = 0 then (1 : Int32) else (0 : Int32))) else (0 : Int32)) = j144 → (((j144 = 0 → True) ∧ (¬ (j144 = 0) → ((0 < (v30_3 - v30_3 / 5 * 5) → ((0 < (v30_3 - v30_3 / 3 * 3) → True) ∧ (¬ (0 < (v30_3 - v30_3 / 3 * 3)) → (p_L_causes xr_30 u141_0 u141_1 u141_2 u141_3 tn_30 ∧ (((f_L_causes xr_30 u141_0 u141_1 u141_2 u141_3 tn_30) = 0 → True) ∧ (¬ ((f_L_causes xr_30 u141_0 u141_1 u141_2 u141_3 tn_30) = 0) → True)))))) ∧ (¬ (0 < (v30_3 - v30_3 / 5 * 5)) → (p_L_hangs u141_0 u141_2 ∧ (((f_L_hangs u141_0 u141_2) = 0 → True) ∧ (¬ ((f_L_hangs u141_0 u141_2) = 0) → ((0 < (v30_3 - v30_3 / 3 * 3) → True) ∧ (¬ (0 < (v30_3 - v30_3 / 3 * 3)) → (p_L_causes xr_30 u141_0 u141_1 u141_2 u141_3 tn_30 ∧ (((f_L_causes xr_30 u141_0 u141_1 u141_2 u141_3 tn_30) = 0 → True) ∧ (¬ ((f_L_causes xr_30 u141_0 u141_1 u141_2 u141_3 tn_30) = 0) → True)))))))))))) ∧ ∀ (j149 : Int32), (if j144 = 0 then (0 : Int32) else (if 0 < (v30_3 - v30_3 / 5 * 5) then (if 0 < (v30_3 - v30_3 / 3 * 3) then (1 : Int32) else (if (f_L_causes xr_30 u141_0 u141_1 u141_2 u141_3 tn_30) = 0 then (0 : Int32) else (1 : Int32))) else (if (f_L_hangs u141_0 u141_2) = 0 then (0 : Int32) else (if 0 < (v30_3 - v30_3 / 3 * 3) then (1 : Int32) else (if (f_L_causes xr_30 u141_0 u141_1 u141_2 u141_3 tn_30) = 0 then (0 : Int32) else (1 : Int32)))))) = j149 → p_L_law_L30 xs L n j149 (v30_3 + 1) xr_30 xt_30 u141_0 u141_1 u141_2 u141_3 lc_30 lk_30 ln_30 lt_30 ll_30 lr_30 tw_30 tn_30 tt_30)))))))))))))))
def f_L_law (xs : AA) (L : Nat) : Int32 := (match f_X4_init with | (u1_0, u1_1, u1_2, u1_3, u1_4, u1_5, u1_6, u1_7, u1_8, u1_9, u1_10, u1_11, u1_12) => ((fun (j3 : Int32) => (match f_L_law_L30 xs L 41 j3 (0 : Int32) (0 : Int32) (0 : Int32) u1_0 u1_1 u1_2 u1_3 u1_4 u1_5 u1_6 u1_7 u1_8 u1_9 u1_10 u1_11 u1_12 with | (r7_v30_2, r7_v30_3, r7_xr_30, r7_xt_30, r7_gn_30, r7_gu_30, r7_gb_30, r7_ga_30, r7_lc_30, r7_lk_30, r7_ln_30, r7_lt_30, r7_ll_30, r7_lr_30, r7_tw_30, r7_tn_30, r7_tt_30) => ((fun (j160 : Int32) => j160) (if r7_v30_2 = 0 then (0 : Int32) else (if (f_L_hangs r7_gn_30 r7_gb_30) = 0 then (0 : Int32) else (if (f_L_causes r7_xr_30 r7_gn_30 r7_gu_30 r7_gb_30 r7_ga_30 r7_tn_30) = 0 then (0 : Int32) else (1 : Int32))))))) (if (f_L_hangs u1_0 u1_2) = 0 then (0 : Int32) else (if (f_L_causes (0 : Int32) u1_0 u1_1 u1_2 u1_3 u1_11) = 0 then (0 : Int32) else (1 : Int32)))))
def p_L_law (xs : AA) (L : Nat) : Prop := (p_X4_init ∧ ∀ (u1_0 : AA) (u1_1 : AA) (u1_2 : AA) (u1_3 : AA) (u1_4 : Int32) (u1_5 : AA) (u1_6 : AA) (u1_7 : AA) (u1_8 : AA) (u1_9 : AA) (u1_10 : Int32) (u1_11 : AA) (u1_12 : AA), f_X4_init = (u1_0, u1_1, u1_2, u1_3, u1_4, u1_5, u1_6, u1_7, u1_8, u1_9, u1_10, u1_11, u1_12) → (p_L_hangs u1_0 u1_2 ∧ ((((f_L_hangs u1_0 u1_2) = 0 → True) ∧ (¬ ((f_L_hangs u1_0 u1_2) = 0) → (p_L_causes (0 : Int32) u1_0 u1_1 u1_2 u1_3 u1_11 ∧ (((f_L_causes (0 : Int32) u1_0 u1_1 u1_2 u1_3 u1_11) = 0 → True) ∧ (¬ ((f_L_causes (0 : Int32) u1_0 u1_1 u1_2 u1_3 u1_11) = 0) → True))))) ∧ ∀ (j3 : Int32), (if (f_L_hangs u1_0 u1_2) = 0 then (0 : Int32) else (if (f_L_causes (0 : Int32) u1_0 u1_1 u1_2 u1_3 u1_11) = 0 then (0 : Int32) else (1 : Int32))) = j3 → (p_L_law_L30 xs L 41 j3 (0 : Int32) (0 : Int32) (0 : Int32) u1_0 u1_1 u1_2 u1_3 u1_4 u1_5 u1_6 u1_7 u1_8 u1_9 u1_10 u1_11 u1_12 ∧ ∀ (r7_v30_2 : Int32) (r7_v30_3 : Int32) (r7_xr_30 : Int32) (r7_xt_30 : Int32) (r7_gn_30 : AA) (r7_gu_30 : AA) (r7_gb_30 : AA) (r7_ga_30 : AA) (r7_lc_30 : Int32) (r7_lk_30 : AA) (r7_ln_30 : AA) (r7_lt_30 : AA) (r7_ll_30 : AA) (r7_lr_30 : AA) (r7_tw_30 : Int32) (r7_tn_30 : AA) (r7_tt_30 : AA), f_L_law_L30 xs L 41 j3 (0 : Int32) (0 : Int32) (0 : Int32) u1_0 u1_1 u1_2 u1_3 u1_4 u1_5 u1_6 u1_7 u1_8 u1_9 u1_10 u1_11 u1_12 = (r7_v30_2, r7_v30_3, r7_xr_30, r7_xt_30, r7_gn_30, r7_gu_30, r7_gb_30, r7_ga_30, r7_lc_30, r7_lk_30, r7_ln_30, r7_lt_30, r7_ll_30, r7_lr_30, r7_tw_30, r7_tn_30, r7_tt_30) → (((r7_v30_2 = 0 → True) ∧ (¬ (r7_v30_2 = 0) → (p_L_hangs r7_gn_30 r7_gb_30 ∧ (((f_L_hangs r7_gn_30 r7_gb_30) = 0 → True) ∧ (¬ ((f_L_hangs r7_gn_30 r7_gb_30) = 0) → (p_L_causes r7_xr_30 r7_gn_30 r7_gu_30 r7_gb_30 r7_ga_30 r7_tn_30 ∧ (((f_L_causes r7_xr_30 r7_gn_30 r7_gu_30 r7_gb_30 r7_ga_30 r7_tn_30) = 0 → True) ∧ (¬ ((f_L_causes r7_xr_30 r7_gn_30 r7_gu_30 r7_gb_30 r7_ga_30 r7_tn_30) = 0) → True)))))))) ∧ ∀ (j160 : Int32), (if r7_v30_2 = 0 then (0 : Int32) else (if (f_L_hangs r7_gn_30 r7_gb_30) = 0 then (0 : Int32) else (if (f_L_causes r7_xr_30 r7_gn_30 r7_gu_30 r7_gb_30 r7_ga_30 r7_tn_30) = 0 then (0 : Int32) else (1 : Int32)))) = j160 → True)))))
end
section
/-! ===== Int32 by its bits: bt x i ===== -/
def bt (x : Int32) (i : Nat) : Bool := x.toBitVec.getLsbD i
theorem b_ext {x y : Int32} (h : ∀ i, i < 32 → bt x i = bt y i) : x = y := Int32.toBitVec_inj.mp (BitVec.eq_of_getLsbD_eq (fun i hi => h i hi))
theorem b_or (x y : Int32) (i : Nat) : bt (x ||| y) i = (bt x i || bt y i) := by unfold bt; rw [Int32.toBitVec_or, BitVec.getLsbD_or]
theorem b_and (x y : Int32) (i : Nat) : bt (x &&& y) i = (bt x i && bt y i) := by unfold bt; rw [Int32.toBitVec_and, BitVec.getLsbD_and]
theorem b_xor (x y : Int32) (i : Nat) : bt (x ^^^ y) i = (bt x i ^^ bt y i) := by unfold bt; rw [Int32.toBitVec_xor, BitVec.getLsbD_xor]
theorem b_big {x : Int32} {i : Nat} (h : 32 ≤ i) : bt x i = false := BitVec.getLsbD_of_ge _ _ h
theorem b_m1 : ∀ i, i < 32 → bt (-1) i = true := by decide +kernel
theorem b_0 (i : Nat) : bt 0 i = false := BitVec.getLsbD_zero
theorem s_l : ∀ n, n < 32 → ((nI n &&& 31).toBitVec.smod 32).toNat = n := by decide +kernel
theorem s_u : ∀ n, n < 32 → (((nI n).toUInt32 &&& Int32.toUInt32 31).toBitVec % 32).toNat = n := by decide +kernel
theorem b_shl (n : Nat) (hn : n < 32) (x : Int32) {i : Nat} (hi : i < 32) : bt (x <<< (nI n &&& 31)) i = (decide (n ≤ i) && bt x (i - n)) := by
  unfold bt
  rw [Int32.toBitVec_shiftLeft]
  show (x.toBitVec <<< ((nI n &&& 31).toBitVec.smod 32).toNat).getLsbD i = _
  rw [s_l n hn, BitVec.getLsbD_shiftLeft]
  rcases Nat.lt_or_ge i n with h | h
  · simp [h, Nat.not_le.mpr h]
  · simp [hi, h, Nat.not_lt.mpr h]
theorem b_ushr (n : Nat) (hn : n < 32) (x : Int32) (i : Nat) : bt ((x.toUInt32 >>> ((nI n).toUInt32 &&& Int32.toUInt32 31)).toInt32) i = bt x (n + i) := by
  show (x.toUInt32 >>> ((nI n).toUInt32 &&& Int32.toUInt32 31)).toBitVec.getLsbD i = x.toUInt32.toBitVec.getLsbD (n + i)
  rw [UInt32.toBitVec_shiftRight]
  show (x.toUInt32.toBitVec >>> (((nI n).toUInt32 &&& Int32.toUInt32 31).toBitVec % 32).toNat).getLsbD i = _
  rw [s_u n hn, BitVec.getLsbD_ushiftRight]
theorem b_sshr (n : Nat) (hn : n < 32) (x : Int32) {i : Nat} (hi : i < 32) : bt (x >>> (nI n &&& 31)) i = if n + i < 32 then bt x (n + i) else bt x 31 := by
  unfold bt
  rw [Int32.toBitVec_shiftRight]
  show (x.toBitVec.sshiftRight ((nI n &&& 31).toBitVec.smod 32).toNat).getLsbD i = _
  rw [s_l n hn, BitVec.getLsbD_sshiftRight, BitVec.msb_eq_getLsbD_last]
  simp [hi]
/-! ===== sets of nodes: the bits 0 to 13 ===== -/
def M14 (x : Int32) : Prop := ∀ i, 14 ≤ i → bt x i = false
theorem M14.ext {x y : Int32} (hx : M14 x) (hy : M14 y) (h : ∀ i, i < 14 → bt x i = bt y i) : x = y := b_ext fun i _ => by
  rcases Nat.lt_or_ge i 14 with q | q
  · exact h i q
  · rw [hx i q, hy i q]
theorem M14.extT {x y : Int32} (hx : M14 x) (hy : M14 y) (h : ∀ i, i < 14 → (bt x i = true ↔ bt y i = true)) : x = y := M14.ext hx hy fun i hi => Bool.eq_iff_iff.mpr (h i hi)
theorem M14.zero : M14 0 := fun i _ => b_0 i
theorem M14.or {x y : Int32} (hx : M14 x) (hy : M14 y) : M14 (x ||| y) := fun i h => by rw [b_or, hx i h, hy i h]; rfl
theorem M14.and {x : Int32} (hx : M14 x) (y : Int32) : M14 (x &&& y) := fun i h => by rw [b_and, hx i h]; rfl
theorem M14.andR {y : Int32} (hy : M14 y) (x : Int32) : M14 (x &&& y) := fun i h => by rw [b_and, hy i h, Bool.and_false]
theorem M14.lt {x : Int32} (hx : M14 x) {i : Nat} (h : bt x i = true) : i < 14 := by
  rcases Nat.lt_or_ge i 14 with q | q
  · exact q
  · rw [hx i q] at h; cases h
theorem b_1 : ∀ k, k < 32 → bt 1 k = decide (k = 0) := by decide +kernel
theorem b_one {n i : Nat} (hn : n < 32) (hi : i < 32) : bt (1 <<< (nI n &&& 31)) i = decide (i = n) := by
  rw [b_shl n hn 1 hi]
  rcases Nat.lt_or_ge i n with h | h
  · rw [decide_eq_false (Nat.not_le.mpr h), decide_eq_false (by omega)]; rfl
  · rw [decide_eq_true h, b_1 _ (by omega), Bool.true_and]
    by_cases e : i = n
    · rw [decide_eq_true e, decide_eq_true (by omega)]
    · rw [decide_eq_false e, decide_eq_false (by omega)]
theorem only_b {n i : Nat} (hn : n < 14) : bt (f_X4_only (nI n)) i = decide (i = n) := by
  unfold f_X4_only
  rcases Nat.lt_or_ge i 32 with h | h
  · exact b_one (by omega) h
  · rw [b_big h, decide_eq_false (by omega)]
theorem only_M {n : Nat} (hn : n < 14) : M14 (f_X4_only (nI n)) := fun i h => by rw [only_b hn, decide_eq_false (by omega)]
theorem one_eq (n : Nat) : (1 : Int32) <<< (nI n &&& 31) = f_X4_only (nI n) := rfl
theorem not_b (x : Int32) {i : Nat} (hi : i < 32) : bt (x ^^^ (-1)) i = !bt x i := by rw [b_xor, b_m1 i hi, Bool.xor_true]
/-- a set is empty if no bit is set -/
theorem z_iff {x : Int32} (hx : M14 x) : x = 0 ↔ ∀ i, i < 14 → bt x i = false := ⟨fun h i _ => by rw [h, b_0], fun h => M14.ext hx M14.zero fun i hi => by rw [h i hi, b_0]⟩
theorem nz_iff {x : Int32} (hx : M14 x) : x ≠ 0 ↔ ∃ i, i < 14 ∧ bt x i = true := by
  refine ⟨fun h => ?_, fun ⟨i, hi, h⟩ e => by rw [e, b_0] at h; cases h⟩
  refine Classical.byContradiction fun c => h ((z_iff hx).mpr fun i hi => ?_)
  cases hb : bt x i
  · rfl
  · exact absurd ⟨i, hi, hb⟩ c
theorem has4 (x : Int32) {n : Nat} (hn : n < 32) : f_X4_has x (nI n) = if bt x n then 1 else 0 := by
  unfold f_X4_has f_X4_only
  have key : (x &&& (1 <<< (nI n &&& 31))) = 0 ↔ bt x n = false := by
    refine ⟨fun h => ?_, fun h => b_ext fun i hi => ?_⟩
    · have h1 := b_and x (1 <<< (nI n &&& 31)) n
      rw [h, b_0, b_one hn hn, decide_eq_true rfl, Bool.and_true] at h1
      exact h1.symm
    · rw [b_and, b_0, b_one hn hi]
      by_cases e : i = n
      · rw [e, h]; rfl
      · rw [decide_eq_false e, Bool.and_false]
  cases hb : bt x n
  · rw [if_pos (key.mpr hb)]; rfl
  · rw [if_neg (fun h => by rw [key.mp h] at hb; cases hb)]; rfl
theorem shr1 (x : Int32) {n : Nat} (hn : n < 32) : (x >>> (nI n &&& 31)) &&& 1 = if bt x n then 1 else 0 := by
  refine b_ext fun i hi => ?_
  rw [b_and, b_sshr n hn x hi, b_1 i hi]
  by_cases e : i = 0
  · subst e
    rw [if_pos (by omega), decide_eq_true rfl, Bool.and_true, Nat.add_zero]
    cases bt x n
    · exact (b_0 0).symm
    · rfl
  · rw [decide_eq_false e, Bool.and_false]
    cases bt x n
    · exact (b_0 i).symm
    · show false = bt 1 i
      rw [b_1 i hi, decide_eq_false e]
theorem has4_0 (x : Int32) {n : Nat} (hn : n < 32) : f_X4_has x (nI n) = 0 ↔ bt x n = false := by rw [has4 x hn]; cases bt x n <;> simp
theorem le14 {j : Nat} (hj : j < 2 ^ 31) : (14 : Int32) ≤ nI j ↔ 14 ≤ j := nI_leI (a := 14) (by decide) hj
theorem in14 {j : Nat} (h : j < 14) : vp_in (nI j) 14 := vp_in_nI h (by decide)
theorem cl {j : Nat} (h : j < 2 ^ 31) : (nI j).toNatClampNeg = j := nI_clamp h
end
section
theorem fb_holes : ∀ (m n : Nat) (f : Nat → Nat), (∀ i, i < n → f i < m) → (∀ i j, i < j → j < n → f i ≠ f j) → n ≤ m := by
  intro m
  induction m with
  | zero =>
    intro n f h1 _
    rcases Nat.eq_zero_or_pos n with h | h
    · omega
    · exact absurd (h1 0 h) (Nat.not_lt_zero _)
  | succ m ih =>
    intro n f h1 h2
    by_cases hx : ∃ i, i < n ∧ f i = m
    · obtain ⟨a, ha, hfa⟩ := hx
      have hg := ih (n - 1) (fun i => if i < a then f i else f (i + 1)) (by
        intro i hi
        by_cases q : i < a
        · simp only [if_pos q]
          have b1 := h1 i (by omega)
          have b2 := h2 i a q ha
          omega
        · simp only [if_neg q]
          have b1 := h1 (i + 1) (by omega)
          have b2 := h2 a (i + 1) (by omega) (by omega)
          omega) (by
        intro i j hij hj
        by_cases q : i < a
        · by_cases r : j < a
          · simp only [if_pos q, if_pos r]
            exact h2 i j hij (by omega)
          · simp only [if_pos q, if_neg r]
            exact h2 i (j + 1) (by omega) (by omega)
        · have r : ¬ j < a := by omega
          simp only [if_neg q, if_neg r]
          exact h2 (i + 1) (j + 1) (by omega) (by omega))
      omega
    · have hg := ih n f (fun i hi => by
        have b1 := h1 i hi
        have b2 : f i ≠ m := fun e => hx ⟨i, hi, e⟩
        omega) h2
      omega
/-- two of them in one place -/
theorem fb_twice {m n : Nat} {f : Nat → Nat} (h : ∀ i, i < n → f i < m) (hm : m < n) : ∃ i j, i < j ∧ j < n ∧ f i = f j := by
  refine Classical.byContradiction fun hx => ?_
  have := fb_holes m n f h (fun i j hij hj e => hx ⟨i, j, hij, hj, e⟩)
  omega
/-! ===== ways over 14 nodes ===== -/
/-- there is a way of n + 1 steps -/
def Wy (N : Nat → Nat → Prop) : Nat → Nat → Nat → Prop
  | 0, i, j => N i j
  | n + 1, i, j => ∃ k, k < 14 ∧ N i k ∧ Wy N n k j
def Rc (N : Nat → Nat → Prop) (i j : Nat) : Prop := ∃ n, Wy N n i j
theorem Wy.snoc {N : Nat → Nat → Prop} : ∀ {n i k j : Nat}, Wy N n i k → k < 14 → N k j → Wy N (n + 1) i j
  | 0, i, k, j, h, hk, hj => ⟨k, hk, h, hj⟩
  | n + 1, i, k, j, ⟨x, hx, h1, h2⟩, hk, hj => ⟨x, hx, h1, Wy.snoc h2 hk hj⟩
theorem Wy.unsnoc {N : Nat → Nat → Prop} : ∀ {n i j : Nat}, Wy N (n + 1) i j → ∃ k, k < 14 ∧ Wy N n i k ∧ N k j
  | 0, i, j, ⟨x, hx, h1, h2⟩ => ⟨x, hx, h1, h2⟩
  | n + 1, i, j, ⟨x, hx, h1, h2⟩ => by
    obtain ⟨k, hk, h3, h4⟩ := Wy.unsnoc h2
    exact ⟨k, hk, ⟨x, hx, h1, h3⟩, h4⟩
theorem Wy.app {N : Nat → Nat → Prop} : ∀ {a b i k j : Nat}, Wy N a i k → k < 14 → Wy N b k j → Wy N (a + 1 + b) i j
  | a, 0, i, k, j, h, hk, hj => Wy.snoc h hk hj
  | a, b + 1, i, k, j, h, hk, ⟨x, hx, h1, h2⟩ => by
    have h3 := Wy.app (Wy.snoc h hk h1) hx h2
    rw [show a + 1 + (b + 1) = a + 1 + 1 + b by omega]
    exact h3
theorem Rc.trans {N : Nat → Nat → Prop} {i k j : Nat} (h1 : Rc N i k) (hk : k < 14) (h2 : Rc N k j) : Rc N i j := by
  obtain ⟨a, ha⟩ := h1
  obtain ⟨b, hb⟩ := h2
  exact ⟨_, Wy.app ha hk hb⟩
theorem Wy.pre {N : Nat → Nat → Prop} : ∀ {n i j : Nat}, Wy N n i j → ∀ m, m < n → ∃ k, k < 14 ∧ Wy N m i k
  | 0, _, _, _, m, hm => absurd hm (Nat.not_lt_zero m)
  | n + 1, i, j, h, m, hm => by
    obtain ⟨k, hk, h1, h2⟩ := Wy.unsnoc h
    rcases Nat.lt_or_ge m n with q | q
    · exact Wy.pre h1 m q
    · exact ⟨k, hk, by rw [show m = n by omega]; exact h1⟩
/-- a way by its nodes -/
theorem Wy.nodes {N : Nat → Nat → Prop} : ∀ {n i j : Nat}, Wy N n i j → i < 14 → j < 14 → ∃ f : Nat → Nat, f 0 = i ∧ f (n + 1) = j ∧ (∀ k, k ≤ n → N (f k) (f (k + 1))) ∧ ∀ k, k ≤ n + 1 → f k < 14
  | 0, i, j, h, hi, hj => ⟨fun k => if k = 0 then i else j, rfl, rfl, fun k hk => by rw [show k = 0 by omega]; exact h, fun k _ => by
      show (if k = 0 then i else j) < 14
      split
      · exact hi
      · exact hj⟩
  | n + 1, i, j, ⟨x, hx, h1, h2⟩, hi, hj => by
    obtain ⟨f, f0, f1, f2, f3⟩ := Wy.nodes h2 hx hj
    refine ⟨fun k => match k with | 0 => i | k + 1 => f k, rfl, f1, fun k hk => ?_, fun k hk => ?_⟩
    · match k with
      | 0 => show N i (f 0); rw [f0]; exact h1
      | k + 1 => exact f2 k (by omega)
    · match k with
      | 0 => exact hi
      | k + 1 => exact f3 k (by omega)
theorem Wy.of {N : Nat → Nat → Prop} (f : Nat → Nat) : ∀ (d a : Nat), (∀ k, a ≤ k → k ≤ a + d → N (f k) (f (k + 1)) ∧ f (k + 1) < 14) → Wy N d (f a) (f (a + d + 1))
  | 0, a, h => (h a (Nat.le_refl _) (Nat.le_refl _)).1
  | d + 1, a, h => by
    refine ⟨f (a + 1), (h a (Nat.le_refl _) (by omega)).2, (h a (Nat.le_refl _) (by omega)).1, ?_⟩
    have h1 := Wy.of f d (a + 1) (fun k h1 h2 => h k (by omega) (by omega))
    rw [show a + (d + 1) + 1 = a + 1 + d + 1 by omega]
    exact h1
def Ac (N : Nat → Nat → Prop) : Prop := ∀ i, i < 14 → ¬ Rc N i i
/-- without rounds no way is long -/
theorem Wy.short {N : Nat → Nat → Prop} (ha : Ac N) {n i j : Nat} (h : Wy N n i j) (hi : i < 14) (hj : j < 14) : n < 13 := by
  rcases Nat.lt_or_ge n 13 with q | q
  · exact q
  · obtain ⟨f, f0, f1, f2, f3⟩ := h.nodes hi hj
    obtain ⟨a, b, hab, hb, e⟩ := fb_twice (m := 14) (n := n + 2) (f := f) (fun k hk => f3 k (by omega)) (by omega)
    have h1 := Wy.of (N := N) f (b - a - 1) a (fun k h1 h2 => ⟨f2 k (by omega), f3 (k + 1) (by omega)⟩)
    rw [show a + (b - a - 1) + 1 = b by omega, ← e] at h1
    exact absurd ⟨_, h1⟩ (ha (f a) (f3 a (by omega)))
theorem Rc.bound {N : Nat → Nat → Prop} (ha : Ac N) {i j : Nat} (hi : i < 14) (hj : j < 14) : Rc N i j ↔ ∃ n, n < 13 ∧ Wy N n i j := ⟨fun ⟨n, h⟩ => ⟨n, h.short ha hi hj, h⟩, fun ⟨n, _, h⟩ => ⟨n, h⟩⟩
theorem Wy.mono {N N' : Nat → Nat → Prop} (h : ∀ i j, N i j → N' i j) : ∀ {n i j : Nat}, Wy N n i j → Wy N' n i j
  | 0, _, _, hw => h _ _ hw
  | _ + 1, _, _, ⟨k, hk, h1, h2⟩ => ⟨k, hk, h _ _ h1, Wy.mono h h2⟩
theorem Rc.mono {N N' : Nat → Nat → Prop} (h : ∀ i j, N i j → N' i j) {i j : Nat} : Rc N i j → Rc N' i j := fun ⟨n, hw⟩ => ⟨n, hw.mono h⟩
/-- ways with one more link: either without it, or to its tail and from its head -/
theorem Rc.link {N : Nat → Nat → Prop} {a b : Nat} (ha : a < 14) (hb : b < 14) : ∀ {n i j : Nat}, i < 14 → Wy (fun x y => N x y ∨ (x = a ∧ y = b)) n i j → Rc N i j ∨ ((i = a ∨ Rc N i a) ∧ (j = b ∨ Rc N b j))
  | 0, i, j, hi, h => by
    rcases h with h | ⟨rfl, rfl⟩
    · exact Or.inl ⟨0, h⟩
    · exact Or.inr ⟨Or.inl rfl, Or.inl rfl⟩
  | n + 1, i, j, hi, ⟨k, hk, h1, h2⟩ => by
    rcases h1 with h1 | ⟨rfl, rfl⟩
    · rcases Rc.link ha hb hk h2 with h3 | ⟨h3, h4⟩
      · exact Or.inl (Rc.trans ⟨0, h1⟩ hk h3)
      · refine Or.inr ⟨Or.inr ?_, h4⟩
        rcases h3 with rfl | h3
        · exact ⟨0, h1⟩
        · exact Rc.trans ⟨0, h1⟩ hk h3
    · rcases Rc.link ha hb hk h2 with h3 | ⟨h3, h4⟩
      · exact Or.inr ⟨Or.inl rfl, Or.inr h3⟩
      · exact Or.inr ⟨Or.inl rfl, h4⟩
theorem Ac.link {N : Nat → Nat → Prop} (h : Ac N) {a b : Nat} (ha : a < 14) (hb : b < 14) (hab : a ≠ b) (hr : ¬ Rc N b a) : Ac (fun x y => N x y ∨ (x = a ∧ y = b)) := by
  rintro i hi ⟨n, hw⟩
  rcases Rc.link ha hb hi hw with h1 | ⟨h1, h2⟩
  · exact h i hi h1
  · rcases h1 with rfl | h1
    · rcases h2 with h2 | h2
      · exact hab h2
      · exact hr h2
    · rcases h2 with rfl | h2
      · exact hr h1
      · exact hr (Rc.trans h2 hi h1)
theorem Ac.mono {N N' : Nat → Nat → Prop} (h : Ac N) (hs : ∀ i j, N' i j → N i j) : Ac N' := fun i hi hr => h i hi (Rc.mono hs hr)
/-- ways backwards -/
theorem Wy.rev {N : Nat → Nat → Prop} : ∀ {n i j : Nat}, Wy N n i j → Wy (fun x y => N y x) n j i
  | 0, _, _, h => h
  | _ + 1, _, _, ⟨_, hk, h1, h2⟩ => Wy.snoc (Wy.rev h2) hk h1
theorem Rc.rev {N : Nat → Nat → Prop} {i j : Nat} : Rc (fun x y => N y x) j i ↔ Rc N i j := ⟨fun ⟨n, h⟩ => ⟨n, h.rev⟩, fun ⟨n, h⟩ => ⟨n, h.rev⟩⟩
end
section
def RM (g : AA) : Prop := ∀ i, i < 14 → M14 (g i)
def NR (g : AA) (i j : Nat) : Prop := bt (g i) j = true
theorem in_or {p q : Nat → Prop} {j : Nat} : (∃ i, j ≤ i ∧ i < 14 ∧ p i) ↔ (j < 14 ∧ p j) ∨ ∃ i, j + 1 ≤ i ∧ i < 14 ∧ p i := by
  constructor
  · rintro ⟨i, h1, h2, h3⟩
    rcases Nat.lt_or_ge j i with q | q
    · exact Or.inr ⟨i, q, h2, h3⟩
    · have e : i = j := by omega
      subst e
      exact Or.inl ⟨h2, h3⟩
  · rintro (⟨h1, h2⟩ | ⟨i, h1, h2, h3⟩)
    · exact ⟨j, Nat.le_refl _, h1, h2⟩
    · exact ⟨i, by omega, h2, h3⟩
theorem n14 {j : Nat} (h : j < 14) : ¬ (14 : Int32) ≤ nI j := fun c => by have := (le14 (j := j) (by omega)).mp c; omega
theorem y14 : (14 : Int32) ≤ nI 14 := (le14 (by decide)).mpr (Nat.le_refl _)
theorem step_L (kl : AA) (a : Int32) : ∀ (r j n : Nat) (v : Int32), j + r = 14 → r < n →
    p_X1_step_L4 kl a n v (nI j) ∧ ∃ w, f_X1_step_L4 kl a n v (nI j) = (w, nI 14) ∧ ∀ t, (bt w t = true ↔ bt v t = true ∨ ∃ i, j ≤ i ∧ i < 14 ∧ (bt a i = true ∧ bt (kl i) t = true)) := by
  intro r
  induction r with
  | zero =>
    intro j n v hj hn
    obtain ⟨n, rfl⟩ : ∃ k, n = k + 1 := ⟨n - 1, by omega⟩
    have e : j = 14 := by omega
    subst e
    refine ⟨?_, v, ?_, fun t => ⟨Or.inl, ?_⟩⟩
    · rw [p_X1_step_L4]; exact ⟨fun _ => trivial, fun h => absurd y14 h⟩
    · rw [f_X1_step_L4, if_pos y14]
    · rintro (h | ⟨i, h1, h2, _⟩)
      · exact h
      · omega
  | succ r ih =>
    intro j n v hj hn
    obtain ⟨n, rfl⟩ : ∃ k, n = k + 1 := ⟨n - 1, by omega⟩
    have hj14 : j < 14 := by omega
    cases hb : bt a j
    · have c2 := (has4_0 a (n := j) (by omega)).mpr hb
      obtain ⟨h1, w, h2, h3⟩ := ih (j + 1) n v (by omega) (by omega)
      refine ⟨?_, w, ?_, fun t => ?_⟩
      · rw [p_X1_step_L4]; exact ⟨fun h => absurd h (n14 hj14), fun _ => ⟨fun _ => by rw [nI_1]; exact h1, fun h => absurd c2 h⟩⟩
      · rw [f_X1_step_L4, if_neg (n14 hj14), if_pos c2, nI_1]; exact h2
      · rw [h3 t, in_or (p := fun i => bt a i = true ∧ bt (kl i) t = true) (q := fun _ => True) (j := j), hb]
        simp
    · have c2 : ¬ f_X4_has a (nI j) = 0 := fun h => by rw [(has4_0 a (n := j) (by omega)).mp h] at hb; cases hb
      obtain ⟨h1, w, h2, h3⟩ := ih (j + 1) n (v ||| kl j) (by omega) (by omega)
      refine ⟨?_, w, ?_, fun t => ?_⟩
      · rw [p_X1_step_L4]; exact ⟨fun h => absurd h (n14 hj14), fun _ => ⟨fun h => absurd h c2, fun _ => ⟨in14 hj14, by rw [nI_1, cl (by omega)]; exact h1⟩⟩⟩
      · rw [f_X1_step_L4, if_neg (n14 hj14), if_neg c2, nI_1, cl (by omega)]; exact h2
      · rw [h3 t, in_or (p := fun i => bt a i = true ∧ bt (kl i) t = true) (q := fun _ => True) (j := j), hb, b_or]
        simp [hj14, or_assoc]
theorem step_spec (kl : AA) (a : Int32) : p_X1_step kl a ∧ ∀ t, (bt (f_X1_step kl a) t = true ↔ ∃ i, i < 14 ∧ bt a i = true ∧ bt (kl i) t = true) := by
  obtain ⟨h1, w, h2, h3⟩ := step_L kl a 14 0 15 0 rfl (by decide)
  have e0 : nI 0 = 0 := nI_0
  rw [e0] at h1 h2
  refine ⟨⟨h1, fun _ _ _ => trivial⟩, fun t => ?_⟩
  unfold f_X1_step
  rw [h2]
  show bt w t = true ↔ _
  rw [h3 t, b_0]
  simp
theorem step_M {kl : AA} (hk : RM kl) (a : Int32) : M14 (f_X1_step kl a) := fun i hi => by
  cases hb : bt (f_X1_step kl a) i
  · rfl
  · obtain ⟨k, hk1, _, h3⟩ := ((step_spec kl a).2 i).mp hb
    rw [hk k hk1 i hi] at h3
    cases h3
/-- what is reached in just t steps -/
def Lv (kl : AA) (i t j : Nat) : Prop := match t with
  | 0 => j = i
  | t + 1 => Wy (NR kl) t i j
theorem Lv.next {kl : AA} {i t : Nat} (hi : i < 14) {x : Int32} (h : ∀ j, bt x j = true ↔ Lv kl i t j) (hx : M14 x) : ∀ j, bt (f_X1_step kl x) j = true ↔ Lv kl i (t + 1) j := fun j => by
  rw [(step_spec kl x).2 j]
  match t with
  | 0 =>
    constructor
    · rintro ⟨k, hk, h1, h2⟩
      have e : k = i := (h k).mp h1
      subst e
      exact h2
    · intro h1
      exact ⟨i, hi, (h i).mpr rfl, h1⟩
  | t + 1 =>
    constructor
    · rintro ⟨k, hk, h1, h2⟩
      exact Wy.snoc ((h k).mp h1) hk h2
    · intro h1
      obtain ⟨k, hk, h2, h3⟩ := Wy.unsnoc h1
      exact ⟨k, hk, (h k).mpr h2, h3⟩
theorem follow_L {kl : AA} (hk : RM kl) {i : Nat} (hi : i < 14) : ∀ (r t n : Nat) (found reached : Int32), t + r = 14 → r < n → M14 reached → M14 found → (∀ j, bt reached j = true ↔ Lv kl i t j) → (∀ j, bt found j = true ↔ ∃ m, m < t ∧ Wy (NR kl) m i j) →
    p_X1_follow_L10 kl n found reached (nI t) ∧ ∃ w x y, f_X1_follow_L10 kl n found reached (nI t) = (w, x, y) ∧ M14 w ∧ ∀ j, (bt w j = true ↔ ∃ m, m < 14 ∧ Wy (NR kl) m i j) := by
  intro r
  induction r with
  | zero =>
    intro t n found reached ht hn hr hf h1 h2
    obtain ⟨n, rfl⟩ : ∃ k, n = k + 1 := ⟨n - 1, by omega⟩
    have e : t = 14 := by omega
    subst e
    refine ⟨?_, found, reached, nI 14, ?_, hf, h2⟩
    · rw [p_X1_follow_L10]; exact ⟨fun _ => trivial, fun h => absurd y14 h⟩
    · rw [f_X1_follow_L10, if_pos y14]
  | succ r ih =>
    intro t n found reached ht hn hr hf h1 h2
    obtain ⟨n, rfl⟩ : ∃ k, n = k + 1 := ⟨n - 1, by omega⟩
    have ht14 : t < 14 := by omega
    by_cases c : reached = 0
    · refine ⟨?_, found, reached, nI t, ?_, hf, fun j => ?_⟩
      · rw [p_X1_follow_L10]; exact ⟨fun h => absurd h (n14 ht14), fun _ => ⟨fun _ => trivial, fun h => absurd c h⟩⟩
      · rw [f_X1_follow_L10, if_neg (n14 ht14), if_pos c]
      · rw [h2 j]
        constructor
        · rintro ⟨m, hm, h3⟩
          exact ⟨m, by omega, h3⟩
        · rintro ⟨m, hm, h3⟩
          rcases Nat.lt_or_ge m t with q | q
          · exact ⟨m, q, h3⟩
          · exfalso
            have hno : ∀ k, ¬ Lv kl i t k := fun k hk => by
              have := (h1 k).mpr hk
              rw [c, b_0] at this
              cases this
            match t, hno, q with
            | 0, hno, _ => exact hno i rfl
            | t + 1, hno, q =>
              rcases Nat.lt_or_ge t m with z | z
              · obtain ⟨k, _, h4⟩ := Wy.pre h3 t z
                exact hno k h4
              · exact absurd (Nat.le_trans q z) (by omega)
    · obtain ⟨h3, w, x, y, h4, h5, h6⟩ := ih (t + 1) n (found ||| f_X1_step kl reached) (f_X1_step kl reached) (by omega) (by omega) (step_M hk _) (hf.or (step_M hk _)) (Lv.next hi h1 hr) (fun j => by
        rw [b_or, Bool.or_eq_true, h2 j, Lv.next hi h1 hr j]
        constructor
        · rintro (⟨m, hm, h3⟩ | h3)
          · exact ⟨m, by omega, h3⟩
          · exact ⟨t, by omega, h3⟩
        · rintro ⟨m, hm, h3⟩
          rcases Nat.lt_or_ge m t with q | q
          · exact Or.inl ⟨m, q, h3⟩
          · have e : m = t := by omega
            subst e
            exact Or.inr h3)
      refine ⟨?_, w, x, y, ?_, h5, h6⟩
      · rw [p_X1_follow_L10]; exact ⟨fun h => absurd h (n14 ht14), fun _ => ⟨fun h => absurd h c, fun _ => ⟨(step_spec kl reached).1, by rw [nI_1]; exact h3⟩⟩⟩
      · rw [f_X1_follow_L10, if_neg (n14 ht14), if_neg c, nI_1]; exact h4
theorem follow_spec {kl : AA} (hk : RM kl) (ha : Ac (NR kl)) {i : Nat} (hi : i < 14) : p_X1_follow kl (nI i) ∧ M14 (f_X1_follow kl (nI i)) ∧ ∀ j, j < 14 → (bt (f_X1_follow kl (nI i)) j = true ↔ Rc (NR kl) i j) := by
  obtain ⟨h1, w, x, y, h2, h3, h4⟩ := follow_L hk hi 14 0 15 0 (f_X4_only (nI i)) rfl (by decide) (only_M hi) M14.zero (fun j => by rw [only_b hi]; exact decide_eq_true_iff) (fun j => by rw [b_0]; simp)
  rw [nI_0] at h1 h2
  refine ⟨⟨h1, fun _ _ _ _ => trivial⟩, ?_, fun j hj => ?_⟩
  · unfold f_X1_follow
    rw [h2]
    exact h3
  · unfold f_X1_follow
    rw [h2]
    show bt w j = true ↔ _
    rw [h4 j, Rc.bound ha hi hj]
    exact ⟨fun ⟨m, _, h⟩ => ⟨m, h.short ha hi hj, h⟩, fun ⟨m, hm, h⟩ => ⟨m, by omega, h⟩⟩
theorem upd_at {f : AA} {k j : Nat} {x : Int32} : upd f k x j = if j = k then x else f j := rfl
theorem followAll_L {gn gu : AA} (hn : RM gn) (hu : RM gu) (an : Ac (NR gn)) (au : Ac (NR gu)) : ∀ (r j n : Nat) (b a : AA), j + r = 14 → r < n →
    p_X1_followAll_L2 gn gu n (nI j) b a ∧ ∃ b' a', f_X1_followAll_L2 gn gu n (nI j) b a = (nI 14, b', a') ∧ (∀ i, i < j → b' i = b i ∧ a' i = a i) ∧ ∀ i, j ≤ i → i < 14 → b' i = f_X1_follow gn (nI i) ∧ a' i = f_X1_follow gu (nI i) := by
  intro r
  induction r with
  | zero =>
    intro j n b a hj hn'
    obtain ⟨n, rfl⟩ : ∃ k, n = k + 1 := ⟨n - 1, by omega⟩
    have e : j = 14 := by omega
    subst e
    refine ⟨?_, b, a, ?_, fun _ _ => ⟨rfl, rfl⟩, fun i h1 h2 => by omega⟩
    · rw [p_X1_followAll_L2]; exact ⟨fun _ => trivial, fun h => absurd y14 h⟩
    · rw [f_X1_followAll_L2, if_pos y14]
  | succ r ih =>
    intro j n b a hj hn'
    obtain ⟨n, rfl⟩ : ∃ k, n = k + 1 := ⟨n - 1, by omega⟩
    have hj14 : j < 14 := by omega
    obtain ⟨h1, b', a', h2, h3, h4⟩ := ih (j + 1) n (upd b j (f_X1_follow gn (nI j))) (upd a j (f_X1_follow gu (nI j))) (by omega) (by omega)
    refine ⟨?_, b', a', ?_, fun i hi => ?_, fun i hi hi2 => ?_⟩
    · rw [p_X1_followAll_L2]; exact ⟨fun h => absurd h (n14 hj14), fun _ => ⟨(follow_spec hn an hj14).1, in14 hj14, (follow_spec hu au hj14).1, in14 hj14, by rw [nI_1, cl (by omega)]; exact h1⟩⟩
    · rw [f_X1_followAll_L2, if_neg (n14 hj14), nI_1, cl (by omega)]; exact h2
    · have h5 := h3 i (by omega)
      rw [upd_at, upd_at, if_neg (by omega), if_neg (by omega)] at h5
      exact h5
    · rcases Nat.lt_or_ge j i with q | q
      · exact h4 i q hi2
      · have e : i = j := by omega
        subst e
        have h5 := h3 i (by omega)
        rw [upd_at, upd_at, if_pos rfl, if_pos rfl] at h5
        exact h5
theorem followAll_spec {gn gu gb ga : AA} (hn : RM gn) (hu : RM gu) (an : Ac (NR gn)) (au : Ac (NR gu)) : p_X1_followAll gn gu gb ga ∧ ∃ b a, f_X1_followAll gn gu gb ga = (b, a) ∧ ∀ i, i < 14 → b i = f_X1_follow gn (nI i) ∧ a i = f_X1_follow gu (nI i) := by
  obtain ⟨h1, b, a, h2, _, h4⟩ := followAll_L hn hu an au 14 0 15 gb ga rfl (by decide)
  rw [nI_0] at h1 h2
  refine ⟨⟨h1, fun _ _ _ _ => trivial⟩, b, a, ?_, fun i hi => h4 i (Nat.zero_le _) hi⟩
  unfold f_X1_followAll
  rw [h2]
/-- what the graph's four arrays are to one another -/
def GI (gn gu gb ga : AA) : Prop := RM gn ∧ RM gu ∧ Ac (NR gn) ∧ (∀ i j, i < 14 → j < 14 → (NR gu j i ↔ NR gn i j)) ∧ (∀ i, i < 14 → M14 (gb i) ∧ M14 (ga i)) ∧ ∀ i j, i < 14 → j < 14 → (NR gb i j ↔ Rc (NR gn) i j) ∧ (NR ga j i ↔ Rc (NR gn) i j)
theorem NR.lt {g : AA} (h : RM g) {i j : Nat} (hi : i < 14) (hn : NR g i j) : j < 14 := (h i hi).lt hn
/-- ways stay among the nodes -/
theorem Wy.cong {N N' : Nat → Nat → Prop} (h : ∀ i j, i < 14 → j < 14 → (N i j ↔ N' i j)) : ∀ {n i j : Nat}, i < 14 → j < 14 → Wy N n i j → Wy N' n i j
  | 0, i, j, hi, hj, hw => (h i j hi hj).mp hw
  | n + 1, i, j, hi, hj, ⟨k, hk, h1, h2⟩ => ⟨k, hk, (h i k hi hk).mp h1, Wy.cong h hk hj h2⟩
theorem Rc.cong {N N' : Nat → Nat → Prop} (h : ∀ i j, i < 14 → j < 14 → (N i j ↔ N' i j)) {i j : Nat} (hi : i < 14) (hj : j < 14) : Rc N i j ↔ Rc N' i j :=
  ⟨fun ⟨n, hw⟩ => ⟨n, hw.cong h hi hj⟩, fun ⟨n, hw⟩ => ⟨n, hw.cong (fun i j a b => (h i j a b).symm) hi hj⟩⟩
theorem Ac.cong {N N' : Nat → Nat → Prop} (h : ∀ i j, i < 14 → j < 14 → (N i j ↔ N' i j)) (ha : Ac N) : Ac N' := fun i hi hr => ha i hi ((Rc.cong h hi hi).mpr hr)
theorem rev_of {gn gu : AA} (ht : ∀ i j, i < 14 → j < 14 → (NR gu j i ↔ NR gn i j)) : ∀ i j, i < 14 → j < 14 → (NR gu i j ↔ (fun x y => NR gn y x) i j) := fun i j hi hj => ht j i hj hi
theorem Rc.tr {gn gu : AA} (ht : ∀ i j, i < 14 → j < 14 → (NR gu j i ↔ NR gn i j)) {i j : Nat} (hi : i < 14) (hj : j < 14) : Rc (NR gu) j i ↔ Rc (NR gn) i j := (Rc.cong (rev_of ht) hj hi).trans Rc.rev
theorem Ac.tr {gn gu : AA} (ht : ∀ i j, i < 14 → j < 14 → (NR gu j i ↔ NR gn i j)) (h : Ac (NR gn)) : Ac (NR gu) := fun i hi hr => h i hi ((Rc.tr ht hi hi).mp hr)
/-- all is followed anew -/
theorem GI.made {gn gu gb ga : AA} (hn : RM gn) (hu : RM gu) (han : Ac (NR gn)) (ht : ∀ i j, i < 14 → j < 14 → (NR gu j i ↔ NR gn i j)) : p_X1_followAll gn gu gb ga ∧ ∃ b a, f_X1_followAll gn gu gb ga = (b, a) ∧ GI gn gu b a := by
  obtain ⟨h1, b, a, h2, h3⟩ := followAll_spec (gb := gb) (ga := ga) hn hu han (Ac.tr ht han)
  refine ⟨h1, b, a, h2, hn, hu, han, ht, fun i hi => ?_, fun i j hi hj => ?_⟩
  · rw [(h3 i hi).1, (h3 i hi).2]
    exact ⟨(follow_spec hn han hi).2.1, (follow_spec hu (Ac.tr ht han) hi).2.1⟩
  · unfold NR
    rw [(h3 i hi).1, (h3 j hj).2]
    exact ⟨(follow_spec hn han hi).2.2 j hj, ((follow_spec hu (Ac.tr ht han) hj).2.2 i hi).trans (Rc.tr ht hi hj)⟩
end
section
theorem only_bT {n i : Nat} (hn : n < 14) : bt (f_X4_only (nI n)) i = true ↔ i = n := by rw [only_b hn]; exact decide_eq_true_iff
theorem NR.put {g : AA} {i j x y : Nat} (hj : j < 14) : NR (upd g i (g i ||| f_X4_only (nI j))) x y ↔ NR g x y ∨ (x = i ∧ y = j) := by
  unfold NR
  rw [upd_at]
  by_cases e : x = i
  · subst e
    rw [if_pos rfl, b_or, Bool.or_eq_true, only_bT hj]
    simp
  · rw [if_neg e]
    simp [e]
theorem NR.cut {g : AA} (hg : RM g) {i j x y : Nat} (hx : x < 14) (hj : j < 14) : NR (upd g i (g i &&& (f_X4_only (nI j) ^^^ (-1)))) x y ↔ NR g x y ∧ ¬ (x = i ∧ y = j) := by
  unfold NR
  rw [upd_at]
  by_cases e : x = i
  · subst e
    rw [if_pos rfl, b_and, Bool.and_eq_true]
    constructor
    · rintro ⟨h1, h2⟩
      have hy := (hg x hx).lt h1
      rw [not_b _ (by omega), Bool.not_eq_true'] at h2
      refine ⟨h1, fun ⟨_, h⟩ => ?_⟩
      subst h
      rw [(only_bT hj).mpr rfl] at h2
      cases h2
    · rintro ⟨h1, h2⟩
      have hy := (hg x hx).lt h1
      refine ⟨h1, ?_⟩
      rw [not_b _ (by omega), Bool.not_eq_true']
      cases hb : bt (f_X4_only (nI j)) y
      · rfl
      · exact absurd ⟨rfl, (only_bT hj).mp hb⟩ h2
  · rw [if_neg e]
    simp [e]
theorem RM.put {g : AA} (h : RM g) {i j : Nat} (hj : j < 14) : RM (upd g i (g i ||| f_X4_only (nI j))) := fun x hx => by
  rw [upd_at]
  by_cases e : x = i
  · subst e; rw [if_pos rfl]; exact (h x hx).or (only_M hj)
  · rw [if_neg e]; exact h x hx
theorem RM.cut {g : AA} (h : RM g) {i : Nat} (y : Int32) : RM (upd g i (g i &&& y)) := fun x hx => by
  rw [upd_at]
  by_cases e : x = i
  · subst e; rw [if_pos rfl]; exact (h x hx).and y
  · rw [if_neg e]; exact h x hx
theorem link_spec {gn gu gb ga : AA} (h : GI gn gu gb ga) {i j : Nat} (hi : i < 14) (hj : j < 14) (hij : i ≠ j) (hr : ¬ Rc (NR gn) j i) :
    p_X1_link gn gu gb ga (nI i) (nI j) ∧ ∃ gn' gu' gb' ga', f_X1_link gn gu gb ga (nI i) (nI j) = (if bt (gn i) j then 0 else 1, gn', gu', gb', ga') ∧ GI gn' gu' gb' ga' ∧ ∀ k, k < 14 → gn' k = upd gn i (gn i ||| f_X4_only (nI j)) k := by
  obtain ⟨hn, hu, han, ht, -, -⟩ := id h
  have m := GI.made (gb := gb) (ga := ga) (RM.put hn (i := i) hj) (RM.put hu (i := j) hi) (Ac.cong (fun x y _ _ => (NR.put hj).symm) (Ac.link han hi hj hij hr)) (fun x y hx hy => by rw [NR.put hi, NR.put hj, ht x y hx hy]; exact or_congr Iff.rfl ⟨fun ⟨a, b⟩ => ⟨b, a⟩, fun ⟨a, b⟩ => ⟨b, a⟩⟩)
  obtain ⟨hp, b, a, hf, hG⟩ := m
  constructor
  · unfold p_X1_link
    rw [cl (j := i) (by omega), cl (j := j) (by omega)]
    exact ⟨in14 hi, fun _ => ⟨in14 hi, in14 hi, in14 hj, in14 hj, hp, fun _ _ _ => trivial⟩, fun _ => trivial⟩
  · unfold f_X1_link
    rw [cl (j := i) (by omega), cl (j := j) (by omega)]
    cases hb : bt (gn i) j
    · rw [if_pos ((has4_0 _ (by omega)).mpr hb), hf]
      exact ⟨_, _, _, _, rfl, hG, fun _ _ => rfl⟩
    · rw [if_neg (fun c => by rw [(has4_0 _ (by omega)).mp c] at hb; cases hb)]
      refine ⟨_, _, _, _, rfl, h, fun k hk => ?_⟩
      rw [upd_at]
      by_cases e : k = i
      · subst e
        rw [if_pos rfl]
        refine M14.extT (hn k hk) ((hn k hk).or (only_M hj)) fun t ht => ?_
        rw [b_or, Bool.or_eq_true, only_bT hj]
        exact ⟨Or.inl, fun q => q.elim id (fun q => by rw [q]; exact hb)⟩
      · rw [if_neg e]
theorem unlink_spec {gn gu gb ga : AA} (h : GI gn gu gb ga) {i j : Nat} (hi : i < 14) (hj : j < 14) :
    p_X1_unlink gn gu gb ga (nI i) (nI j) ∧ ∃ gn' gu' gb' ga', f_X1_unlink gn gu gb ga (nI i) (nI j) = (if bt (gn i) j then 1 else 0, gn', gu', gb', ga') ∧ GI gn' gu' gb' ga' ∧ ∀ k, k < 14 → gn' k = upd gn i (gn i &&& (f_X4_only (nI j) ^^^ (-1))) k := by
  obtain ⟨hn, hu, han, ht, -, -⟩ := id h
  have m := GI.made (gb := gb) (ga := ga) (RM.cut hn (i := i) (f_X4_only (nI j) ^^^ (-1))) (RM.cut hu (i := j) (f_X4_only (nI i) ^^^ (-1))) (Ac.cong (N := fun x y => NR gn x y ∧ ¬ (x = i ∧ y = j)) (fun x y hx _ => (NR.cut hn hx hj).symm) (han.mono (fun _ _ q => q.1))) (fun x y hx hy => by
    rw [NR.cut hu hy hi, NR.cut hn hx hj, ht x y hx hy]; exact and_congr Iff.rfl (not_congr ⟨fun ⟨a, b⟩ => ⟨b, a⟩, fun ⟨a, b⟩ => ⟨b, a⟩⟩))
  obtain ⟨hp, b, a, hf, hG⟩ := m
  constructor
  · unfold p_X1_unlink
    rw [cl (j := i) (by omega), cl (j := j) (by omega)]
    exact ⟨in14 hi, fun _ => trivial, fun _ => ⟨in14 hi, in14 hi, in14 hj, in14 hj, hp, fun _ _ _ => trivial⟩⟩
  · unfold f_X1_unlink
    rw [cl (j := i) (by omega), cl (j := j) (by omega)]
    cases hb : bt (gn i) j
    · rw [if_pos ((has4_0 _ (by omega)).mpr hb)]
      refine ⟨_, _, _, _, rfl, h, fun k hk => ?_⟩
      rw [upd_at]
      by_cases e : k = i
      · subst e
        rw [if_pos rfl]
        refine M14.extT (hn k hk) ((hn k hk).and _) fun t ht => ?_
        rw [b_and, Bool.and_eq_true, not_b _ (by omega)]
        refine ⟨fun q => ⟨q, ?_⟩, fun q => q.1⟩
        rw [Bool.not_eq_true']
        cases hc : bt (f_X4_only (nI j)) t
        · rfl
        · rw [(only_bT hj).mp hc, hb] at q; cases q
      · rw [if_neg e]
    · rw [if_neg (fun c => by rw [(has4_0 _ (by omega)).mp c] at hb; cases hb), hf]
      exact ⟨_, _, _, _, rfl, hG, fun _ _ => rfl⟩
/-! ===== the reference's closing ===== -/
def BM (mu : AA) : Prop := ∀ i, i < 14 → M14 (mu i)
def Sd (T : Nat → Nat → Prop) (mu : AA) : Prop := ∀ i, i < 14 → ∀ t, bt (mu i) t = true → T i t
end
section
/-! ===== heights ===== -/
def Hg (g : AA) (i h : Nat) : Prop := (∀ s, s ≤ h → ∃ j, Lv g i s j) ∧ ∀ j, ¬ Lv g i (h + 1) j
theorem Hg.one {g : AA} {i h h' : Nat} (a : Hg g i h) (b : Hg g i h') : h = h' := by
  rcases Nat.lt_trichotomy h h' with q | q | q
  · obtain ⟨j, hj⟩ := b.1 (h + 1) q
    exact absurd hj (a.2 j)
  · exact q
  · obtain ⟨j, hj⟩ := a.1 (h' + 1) q
    exact absurd hj (b.2 j)
theorem Lv.lt {g : AA} (hg : RM g) {i : Nat} (hi : i < 14) : ∀ {t j : Nat}, Lv g i t j → j < 14
  | 0, j, h => by rw [show j = i from h]; exact hi
  | t + 1, j, h => by
    match t, h with
    | 0, h => exact NR.lt hg hi h
    | t + 1, h =>
      obtain ⟨k, hk, _, h2⟩ := Wy.unsnoc (show Wy (NR g) (t + 1) i j from h)
      exact NR.lt hg hk h2
theorem Lv.none14 {g : AA} (hg : RM g) (ha : Ac (NR g)) {i : Nat} (hi : i < 14) {t j : Nat} (ht : 14 ≤ t) : ¬ Lv g i t j := fun h => by
  have hj := Lv.lt hg hi h
  obtain ⟨t, rfl⟩ : ∃ k, t = k + 1 := ⟨t - 1, by omega⟩
  have := Wy.short ha (show Wy (NR g) t i j from h) hi hj
  omega
theorem Lv.z {g : AA} {i t : Nat} {x : Int32} (hx : M14 x) (h : ∀ j, bt x j = true ↔ Lv g i t j) : x = 0 ↔ ∀ j, ¬ Lv g i t j := by
  constructor
  · intro e j hj
    have := (h j).mpr hj
    rw [e, b_0] at this
    cases this
  · intro hn
    refine (z_iff hx).mpr fun j _ => ?_
    cases hb : bt x j
    · rfl
    · exact absurd ((h j).mp hb) (hn j)
theorem Lv.nz {g : AA} {i t : Nat} {x : Int32} (hx : M14 x) (h : ∀ j, bt x j = true ↔ Lv g i t j) (hne : ¬ x = 0) : ∃ j, Lv g i t j := by
  obtain ⟨j, _, hj⟩ := (nz_iff hx).mp hne
  exact ⟨j, (h j).mp hj⟩
theorem lwd_L {g : AA} (hg : RM g) (ha : Ac (NR g)) {i : Nat} (hi : i < 14) : ∀ (r t n : Nat) (x : Int32), t + r = 14 → r < n → M14 x → (∀ j, bt x j = true ↔ Lv g i (t + 1) j) → (∀ s, s ≤ t → ∃ j, Lv g i s j) →
    p_X1_longestWayDown_L14 g n (nI t) x ∧ ∃ h y, f_X1_longestWayDown_L14 g n (nI t) x = (nI h, y) ∧ h < 14 ∧ Hg g i h := by
  intro r
  induction r with
  | zero =>
    intro t n x ht hn hx h1 h2
    obtain ⟨j, hj⟩ := h2 t (Nat.le_refl _)
    exact absurd hj (Lv.none14 hg ha hi (by omega))
  | succ r ih =>
    intro t n x ht hn hx h1 h2
    obtain ⟨n, rfl⟩ : ∃ k, n = k + 1 := ⟨n - 1, by omega⟩
    have ht14 : t < 14 := by omega
    by_cases c : x = 0
    · refine ⟨?_, t, x, ?_, ht14, h2, (Lv.z hx h1).mp c⟩
      · rw [p_X1_longestWayDown_L14]; exact ⟨fun _ => trivial, fun h => absurd c h⟩
      · rw [f_X1_longestWayDown_L14, if_pos c]
    · obtain ⟨a1, h, y, a2, a3, a4⟩ := ih (t + 1) n (f_X1_step g x) (by omega) (by omega) (step_M hg _) (Lv.next hi h1 hx) (fun s hs => by
        rcases Nat.lt_or_ge t s with q | q
        · rw [show s = t + 1 by omega]; exact Lv.nz hx h1 c
        · exact h2 s q)
      refine ⟨?_, h, y, ?_, a3, a4⟩
      · rw [p_X1_longestWayDown_L14]
        exact ⟨fun h => absurd h c, fun _ => ⟨fun h => absurd h (n14 ht14), fun _ => ⟨(step_spec g x).1, by rw [nI_1]; exact a1⟩⟩⟩
      · rw [f_X1_longestWayDown_L14, if_neg c, if_neg (n14 ht14), nI_1]; exact a2
theorem lwd_spec {g : AA} (hg : RM g) (ha : Ac (NR g)) {i : Nat} (hi : i < 14) : p_X1_longestWayDown g (nI i) ∧ ∃ h, f_X1_longestWayDown g (nI i) = nI h ∧ h < 14 ∧ Hg g i h := by
  have h0 : ∀ j, bt (f_X4_only (nI i)) j = true ↔ Lv g i 0 j := fun j => only_bT hi
  obtain ⟨a1, h, y, a2, a3, a4⟩ := lwd_L hg ha hi 14 0 15 _ rfl (by decide) (step_M hg _) (Lv.next hi h0 (only_M hi)) (fun s hs => ⟨i, by rw [show s = 0 by omega]; rfl⟩)
  rw [nI_0] at a1 a2
  refine ⟨⟨(step_spec _ _).1, a1, fun _ _ _ => trivial⟩, h, ?_, a3, a4⟩
  unfold f_X1_longestWayDown
  rw [a2]
end
section
/-! ===== how many nodes, which one ===== -/
def cb (x : Int32) : Nat → Nat
  | 0 => 0
  | k + 1 => cb x k + (if bt x k then 1 else 0)
def cn (x : Int32) : Nat := cb x 14
theorem cb_le (x : Int32) : ∀ k, cb x k ≤ k
  | 0 => Nat.le_refl _
  | k + 1 => by have := cb_le x k; rw [cb]; split <;> omega
theorem cn_le (x : Int32) : cn x ≤ 14 := cb_le x 14
theorem cb_mono (x : Int32) {a : Nat} : ∀ {b : Nat}, a ≤ b → cb x a ≤ cb x b
  | 0, h => by rw [show a = 0 by omega]; exact Nat.le_refl _
  | b + 1, h => by
    rcases Nat.lt_or_ge a (b + 1) with q | q
    · have := cb_mono x (a := a) (b := b) (by omega); rw [cb]; omega
    · rw [show a = b + 1 by omega]; exact Nat.le_refl _
theorem cb_strict {x : Int32} {a b : Nat} (h : bt x a = true) (hab : a < b) : cb x a < cb x b := by
  have h1 : cb x (a + 1) = cb x a + 1 := by rw [cb, h]; rfl
  have h2 := cb_mono x (a := a + 1) (b := b) hab
  omega
theorem cb_inj {x : Int32} {a b : Nat} (ha : bt x a = true) (hb : bt x b = true) (e : cb x a = cb x b) : a = b := by
  rcases Nat.lt_trichotomy a b with q | q | q
  · have := cb_strict ha q; omega
  · exact q
  · have := cb_strict hb q; omega
theorem cb_zero {x : Int32} : ∀ {k : Nat}, cb x k = 0 ↔ ∀ i, i < k → bt x i = false
  | 0 => ⟨fun _ i hi => absurd hi (Nat.not_lt_zero i), fun _ => rfl⟩
  | k + 1 => by
    rw [cb]
    constructor
    · intro h i hi
      rcases Nat.lt_or_ge i k with q | q
      · exact cb_zero.mp (by omega) i q
      · rw [show i = k by omega]
        cases hb : bt x k
        · rfl
        · rw [hb, if_pos rfl] at h; omega
    · intro h
      rw [cb_zero.mpr (fun i hi => h i (by omega)), h k (by omega)]
      rfl
theorem cb_kth {x : Int32} {c : Nat} : ∀ {n : Nat}, c < cb x n → ∃ k, k < n ∧ bt x k = true ∧ cb x k = c
  | 0, h => absurd h (Nat.not_lt_zero _)
  | n + 1, h => by
    rw [cb] at h
    rcases Nat.lt_or_ge c (cb x n) with q | q
    · obtain ⟨k, h1, h2, h3⟩ := cb_kth q
      exact ⟨k, by omega, h2, h3⟩
    · cases hb : bt x n
      · rw [hb] at h; simp at h; omega
      · rw [hb, if_pos rfl] at h
        exact ⟨n, by omega, hb, by omega⟩
/-- bits of a number -/
def pn (n : Nat) : Nat → Nat
  | 0 => 0
  | k + 1 => pn n k + (if n.testBit k then 1 else 0)
def g1 (n : Nat) : Nat := n - (n / 2 &&& 1431655765)
def g2 (n : Nat) : Nat := (n &&& 858993459) + (n / 4 &&& 858993459)
def g3 (n : Nat) : Nat := (n + n / 16) &&& 252645135
def g4 (n : Nat) : Nat := n + n / 256
def g5 (n : Nat) : Nat := n + n / 65536
def g6 (n : Nat) : Nat := g5 (g4 (g3 (g2 (g1 n)))) &&& 63
def g7 (a : Nat) : Bool := (List.range 128).all fun b => Nat.beq (g6 (128 * a + b)) (pn (128 * a + b) 14)
theorem g7_all : (List.range 128).all g7 = true := by decide +kernel
theorem g6_pn {n : Nat} (h : n < 16384) : g6 n = pn n 14 := by
  have h1 := List.all_eq_true.mp g7_all (n / 128) (List.mem_range.mpr (by omega))
  have h2 := List.all_eq_true.mp h1 (n % 128) (List.mem_range.mpr (by omega))
  have h3 := Nat.eq_of_beq_eq_true h2
  rw [show 128 * (n / 128) + n % 128 = n by omega] at h3
  exact h3
theorem ush {n : Nat} (hn : n < 2 ^ 32) (k : Nat) (hk : k < 32) : ((nI n).toUInt32 >>> ((nI k).toUInt32 &&& Int32.toUInt32 31)).toInt32 = nI (n / 2 ^ k) := pk_ushrN hn (nI k) k (s_u k hk)
theorem nI_and (a b : Nat) : nI a &&& nI b = nI (a &&& b) := by
  refine Int32.toBitVec_inj.mp ?_
  rw [Int32.toBitVec_and]
  show BitVec.ofNat 32 a &&& BitVec.ofNat 32 b = BitVec.ofNat 32 (a &&& b)
  exact BitVec.ofNat_and.symm
theorem and_le' (a b : Nat) : (a &&& b) ≤ a := Nat.and_le_left
theorem bitCount_g {n : Nat} (h : n < 16384) : f_J6_bitCount_0f7a4 (nI n) = nI (g6 n) := by
  have l1 : g1 n ≤ n := Nat.sub_le _ _
  have l2 : g2 (g1 n) ≤ g1 n + g1 n := by
    have a := and_le' (g1 n) 858993459
    have b := and_le' (g1 n / 4) 858993459
    have c := Nat.div_le_self (g1 n) 4
    unfold g2; omega
  have l3 : g3 (g2 (g1 n)) ≤ g2 (g1 n) + g2 (g1 n) := by
    have a := and_le' (g2 (g1 n) + g2 (g1 n) / 16) 252645135
    have c := Nat.div_le_self (g2 (g1 n)) 16
    unfold g3; omega
  have l4 : g4 (g3 (g2 (g1 n))) ≤ g3 (g2 (g1 n)) + g3 (g2 (g1 n)) := by
    have c := Nat.div_le_self (g3 (g2 (g1 n))) 256
    unfold g4; omega
  have e1 : nI n - (((nI n).toUInt32 >>> ((1 : Int32).toUInt32 &&& Int32.toUInt32 31)).toInt32 &&& 1431655765) = nI (g1 n) := by
    have u := ush (n := n) (by omega) 1 (by decide)
    rw [show (1 : Int32) = nI 1 from rfl, u, show (1431655765 : Int32) = nI 1431655765 from rfl, nI_and]
    refine pk_sub ?_
    have a := and_le' (n / 2 ^ 1) 1431655765
    omega
  have e2 : (nI (g1 n) &&& 858993459) + (((nI (g1 n)).toUInt32 >>> ((2 : Int32).toUInt32 &&& Int32.toUInt32 31)).toInt32 &&& 858993459) = nI (g2 (g1 n)) := by
    have u := ush (n := g1 n) (by omega) 2 (by decide)
    rw [show (2 : Int32) = nI 2 from rfl, u, show (858993459 : Int32) = nI 858993459 from rfl, nI_and, nI_and, nI_add]
    rfl
  have e3 : (nI (g2 (g1 n)) + ((nI (g2 (g1 n))).toUInt32 >>> ((4 : Int32).toUInt32 &&& Int32.toUInt32 31)).toInt32) &&& 252645135 = nI (g3 (g2 (g1 n))) := by
    have u := ush (n := g2 (g1 n)) (by omega) 4 (by decide)
    rw [show (4 : Int32) = nI 4 from rfl, u, nI_add, show (252645135 : Int32) = nI 252645135 from rfl, nI_and]
    rfl
  have e4 : nI (g3 (g2 (g1 n))) + ((nI (g3 (g2 (g1 n)))).toUInt32 >>> ((8 : Int32).toUInt32 &&& Int32.toUInt32 31)).toInt32 = nI (g4 (g3 (g2 (g1 n)))) := by
    have u := ush (n := g3 (g2 (g1 n))) (by omega) 8 (by decide)
    rw [show (8 : Int32) = nI 8 from rfl, u, nI_add]
    rfl
  have e5 : nI (g4 (g3 (g2 (g1 n)))) + ((nI (g4 (g3 (g2 (g1 n))))).toUInt32 >>> ((16 : Int32).toUInt32 &&& Int32.toUInt32 31)).toInt32 = nI (g5 (g4 (g3 (g2 (g1 n))))) := by
    have u := ush (n := g4 (g3 (g2 (g1 n)))) (by omega) 16 (by decide)
    rw [show (16 : Int32) = nI 16 from rfl, u, nI_add]
    rfl
  unfold f_J6_bitCount_0f7a4
  dsimp only
  rw [e1, e2, e3, e4, e5, show (63 : Int32) = nI 63 from rfl, nI_and]
  rfl
theorem bt_nI {n i : Nat} (hn : n < 2 ^ 32) : bt (nI n) i = n.testBit i := by
  show (nI n).toBitVec.toNat.testBit i = n.testBit i
  rw [pk_tn hn]
theorem M14.num {x : Int32} (h : M14 x) : ∃ n, n < 16384 ∧ x = nI n := by
  refine ⟨x.toBitVec.toNat, ?_, ?_⟩
  · exact Nat.lt_pow_two_of_testBit (n := 14) _ (fun i hi => h i hi)
  · exact Int32.toBitVec_inj.mp (show x.toBitVec = BitVec.ofNat 32 x.toBitVec.toNat by simp)
theorem cb_pn {n : Nat} (hn : n < 2 ^ 32) : ∀ k, cb (nI n) k = pn n k
  | 0 => rfl
  | k + 1 => by rw [cb, pn, cb_pn hn k, bt_nI hn]
theorem count6 {x : Int32} (h : M14 x) : f_J6_bitCount_0f7a4 x = nI (cn x) := by
  obtain ⟨n, hn, rfl⟩ := h.num
  rw [bitCount_g hn, g6_pn hn, cn, cb_pn (by omega)]
theorem nap_L (x p : Int32) : ∀ (r j n : Nat), j + r = 14 → r < n → p_X4_nodeAtPlace_L4 x p n (nI (cb x j)) (nI j) ∧
    ((∃ k, j ≤ k ∧ k < 14 ∧ bt x k = true ∧ p = nI (cb x k) ∧ f_X4_nodeAtPlace_L4 x p n (nI (cb x j)) (nI j) = nI k) ∨ ((∀ k, j ≤ k → k < 14 → bt x k = true → p ≠ nI (cb x k)) ∧ f_X4_nodeAtPlace_L4 x p n (nI (cb x j)) (nI j) = -1)) := by
  intro r
  induction r with
  | zero =>
    intro j n hj hn
    obtain ⟨n, rfl⟩ : ∃ k, n = k + 1 := ⟨n - 1, by omega⟩
    have e : j = 14 := by omega
    subst e
    refine ⟨?_, Or.inr ⟨fun k h1 h2 => by omega, ?_⟩⟩
    · rw [p_X4_nodeAtPlace_L4]; exact ⟨fun _ => trivial, fun h => absurd y14 h⟩
    · rw [f_X4_nodeAtPlace_L4, if_pos y14]
  | succ r ih =>
    intro j n hj hn
    obtain ⟨n, rfl⟩ : ∃ k, n = k + 1 := ⟨n - 1, by omega⟩
    have hj14 : j < 14 := by omega
    have hh := has4_0 x (n := j) (by omega)
    obtain ⟨h1, h2⟩ := ih (j + 1) n (by omega) (by omega)
    cases hb : bt x j
    · have ec : cb x (j + 1) = cb x j := by rw [cb, hb]; rfl
      rw [ec] at h1 h2
      have hf : f_X4_nodeAtPlace_L4 x p (n + 1) (nI (cb x j)) (nI j) = f_X4_nodeAtPlace_L4 x p n (nI (cb x j)) (nI (j + 1)) := by rw [f_X4_nodeAtPlace_L4, if_neg (n14 hj14), if_pos (hh.mpr hb), nI_1]
      refine ⟨?_, ?_⟩
      · rw [p_X4_nodeAtPlace_L4]; exact ⟨fun h => absurd h (n14 hj14), fun _ => ⟨fun _ => by rw [nI_1]; exact h1, fun h => absurd (hh.mpr hb) h⟩⟩
      · rw [hf]
        rcases h2 with ⟨k, a1, a2, a3, a4, a5⟩ | ⟨a1, a2⟩
        · exact Or.inl ⟨k, by omega, a2, a3, a4, a5⟩
        · refine Or.inr ⟨fun k b1 b2 b3 => ?_, a2⟩
          rcases Nat.lt_or_ge j k with q | q
          · exact a1 k q b2 b3
          · rw [show k = j by omega, hb] at b3; cases b3
    · have ec : cb x (j + 1) = cb x j + 1 := by rw [cb, hb]; rfl
      have hnb : ¬ f_X4_has x (nI j) = 0 := fun c => by rw [hh.mp c] at hb; cases hb
      by_cases ep : nI (cb x j) = p
      · refine ⟨?_, Or.inl ⟨j, Nat.le_refl _, hj14, hb, ep.symm, ?_⟩⟩
        · rw [p_X4_nodeAtPlace_L4]; exact ⟨fun h => absurd h (n14 hj14), fun _ => ⟨fun h => absurd h hnb, fun _ => ⟨fun _ => trivial, fun h => absurd ep h⟩⟩⟩
        · rw [f_X4_nodeAtPlace_L4, if_neg (n14 hj14), if_neg hnb, if_pos ep]
      · have hf : f_X4_nodeAtPlace_L4 x p (n + 1) (nI (cb x j)) (nI j) = f_X4_nodeAtPlace_L4 x p n (nI (cb x (j + 1))) (nI (j + 1)) := by rw [f_X4_nodeAtPlace_L4, if_neg (n14 hj14), if_neg hnb, if_neg ep, nI_1, nI_1, ec]
        refine ⟨?_, ?_⟩
        · rw [p_X4_nodeAtPlace_L4]; exact ⟨fun h => absurd h (n14 hj14), fun _ => ⟨fun h => absurd h hnb, fun _ => ⟨fun h => absurd h ep, fun _ => by rw [nI_1, nI_1, ← ec]; exact h1⟩⟩⟩
        · rw [hf]
          rcases h2 with ⟨k, a1, a2, a3, a4, a5⟩ | ⟨a1, a2⟩
          · exact Or.inl ⟨k, by omega, a2, a3, a4, a5⟩
          · refine Or.inr ⟨fun k b1 b2 b3 => ?_, a2⟩
            rcases Nat.lt_or_ge j k with q | q
            · exact a1 k q b2 b3
            · rw [show k = j by omega]; exact fun e => ep e.symm
theorem nap_spec (x p : Int32) : p_X4_nodeAtPlace x p ∧ ((∃ k, k < 14 ∧ bt x k = true ∧ p = nI (cb x k) ∧ f_X4_nodeAtPlace x p = nI k) ∨ ((∀ k, k < 14 → bt x k = true → p ≠ nI (cb x k)) ∧ f_X4_nodeAtPlace x p = -1)) := by
  obtain ⟨h1, h2⟩ := nap_L x p 14 0 15 rfl (by decide)
  have e : nI (cb x 0) = 0 := nI_0
  rw [e, nI_0] at h1 h2
  refine ⟨h1, ?_⟩
  unfold f_X4_nodeAtPlace
  rcases h2 with ⟨k, _, a2, a3, a4, a5⟩ | ⟨a1, a2⟩
  · exact Or.inl ⟨k, a2, a3, a4, a5⟩
  · exact Or.inr ⟨fun k h => a1 k (Nat.zero_le _) h, a2⟩
/-- the lowest node of a set -/
theorem nap0 (x : Int32) : (∃ k, k < 14 ∧ bt x k = true ∧ (∀ i, i < k → bt x i = false) ∧ f_X4_nodeAtPlace x 0 = nI k) ∨ ((∀ k, k < 14 → bt x k = false) ∧ f_X4_nodeAtPlace x 0 = -1) := by
  rcases (nap_spec x 0).2 with ⟨k, a1, a2, a3, a4⟩ | ⟨a1, a2⟩
  · have hle := cb_le x k
    have hc : cb x k = 0 := ((nI_eq (a := 0) (b := cb x k) (by decide) (by omega)).mp a3).symm
    exact Or.inl ⟨k, a1, a2, cb_zero.mp hc, a4⟩
  · refine Or.inr ⟨?_, a2⟩
    intro k hk
    cases hb : bt x k
    · rfl
    · have h1 := cb_strict hb (Nat.lt_succ_self k)
      have h2 := cb_mono x (a := k + 1) (b := 14) (by omega)
      obtain ⟨i, b1, b2, b3⟩ := cb_kth (x := x) (c := 0) (n := 14) (Nat.lt_of_lt_of_le (Nat.lt_of_le_of_lt (Nat.zero_le _) h1) h2)
      exact absurd (by rw [b3]; rfl) (a1 i b1 b2)
theorem nI_neg1 {k : Nat} (hk : k < 14) : ¬ nI k = -1 := (by decide +kernel : ∀ k, k < 14 → ¬ nI k = -1) k hk
end
section
/-! ===== which diagnosis is better ===== -/
def rv (x : Int32) : Nat → Nat
  | 0 => 0
  | k + 1 => 2 * rv x k + (if bt x k then 1 else 0)
theorem rv_keep {x y : Int32} {a : Nat} (h : rv x a < rv y a) : ∀ d, rv x (a + d) < rv y (a + d)
  | 0 => h
  | d + 1 => by
    have := rv_keep h d
    show 2 * rv x (a + d) + _ < 2 * rv y (a + d) + _
    split <;> split <;> omega
theorem rv_eq {x y : Int32} : ∀ {k : Nat}, (∀ i, i < k → bt x i = bt y i) → rv x k = rv y k
  | 0, _ => rfl
  | k + 1, h => by rw [rv, rv, rv_eq (fun i hi => h i (by omega)), h k (by omega)]
theorem rv_lt {x y : Int32} {k : Nat} (hk : k < 14) (h : ∀ i, i < k → bt x i = bt y i) (hx : bt x k = false) (hy : bt y k = true) : rv x 14 < rv y 14 := by
  have h1 : rv x (k + 1) < rv y (k + 1) := by rw [rv, rv, rv_eq h, hx, hy]; simp
  have h2 := rv_keep h1 (14 - (k + 1))
  rw [show k + 1 + (14 - (k + 1)) = 14 by omega] at h2
  exact h2
/-- one set is better than another one, by the raised nodes r -/
def Btr (r s t : Int32) : Prop := cn s < cn t ∨ (cn s = cn t ∧ (cn (t &&& r) < cn (s &&& r) ∨ (cn (t &&& r) = cn (s &&& r) ∧ rv t 14 < rv s 14)))
theorem Btr.irr {r s : Int32} : ¬ Btr r s s := by unfold Btr; omega
theorem Btr.trans {r s t u : Int32} : Btr r s t → Btr r t u → Btr r s u := by unfold Btr; omega
theorem Btr.asym {r s t : Int32} : Btr r s t → ¬ Btr r t s := by unfold Btr; omega
theorem Btr.total {r s t : Int32} (hs : M14 s) (ht : M14 t) (hne : s ≠ t) : Btr r s t ∨ Btr r t s := by
  have hd : rv s 14 < rv t 14 ∨ rv t 14 < rv s 14 := by
    rcases nap0 (s ^^^ t) with ⟨k, h1, h2, h3, _⟩ | ⟨h1, _⟩
    · have hb : ∀ i, i < k → bt s i = bt t i := fun i hi => by
        have := h3 i hi
        rw [b_xor] at this
        revert this
        cases bt s i <;> cases bt t i <;> simp
      rw [b_xor] at h2
      cases hx : bt s k
      · rw [hx, Bool.false_xor] at h2
        exact Or.inl (rv_lt h1 hb hx h2)
      · rw [hx, Bool.true_xor, Bool.not_eq_true'] at h2
        exact Or.inr (rv_lt h1 (fun i hi => (hb i hi).symm) h2 hx)
    · exact absurd (M14.ext hs ht fun i hi => by
        have := h1 i hi
        rw [b_xor] at this
        revert this
        cases bt s i <;> cases bt t i <;> simp) hne
  unfold Btr
  omega
theorem cnI {x y : Int32} : nI (cn x) = nI (cn y) ↔ cn x = cn y := nI_eq (by have := cn_le x; omega) (by have := cn_le y; omega)
theorem cnL {x y : Int32} : nI (cn x) ≤ nI (cn y) ↔ cn x ≤ cn y := nI_leI (by have := cn_le x; omega) (by have := cn_le y; omega)
theorem rv_of_diff {s t : Int32} {k : Nat} (h1 : k < 14) (h2 : bt (s ^^^ t) k = true) (h3 : ∀ i, i < k → bt (s ^^^ t) i = false) : (bt s k = true ∧ rv t 14 < rv s 14) ∨ (bt s k = false ∧ rv s 14 < rv t 14) := by
  have hb : ∀ i, i < k → bt s i = bt t i := fun i hi => by
    have := h3 i hi
    rw [b_xor] at this
    revert this
    cases bt s i <;> cases bt t i <;> simp
  rw [b_xor] at h2
  cases hx : bt s k
  · rw [hx, Bool.false_xor] at h2
    exact Or.inr ⟨rfl, rv_lt h1 hb hx h2⟩
  · rw [hx, Bool.true_xor, Bool.not_eq_true'] at h2
    exact Or.inl ⟨rfl, rv_lt h1 (fun i hi => (hb i hi).symm) h2 hx⟩
theorem rv_same {s t : Int32} (h : ∀ k, k < 14 → bt (s ^^^ t) k = false) : rv s 14 = rv t 14 := rv_eq fun i hi => by
  have := h i hi
  rw [b_xor] at this
  revert this
  cases bt s i <;> cases bt t i <;> simp
theorem better4 {r s t : Int32} (hs : M14 s) (ht : M14 t) : p_X0_isBetter r s t ∧ (f_X0_isBetter r s t = 0 ↔ ¬ Btr r s t) := by
  constructor
  · unfold p_X0_isBetter
    have := (nap_spec (s ^^^ t) 0).1
    simp only [this, true_and, and_true, implies_true]
  · unfold f_X0_isBetter
    rw [count6 hs, count6 ht, count6 (hs.and r), count6 (ht.and r)]
    dsimp only
    unfold Btr
    by_cases c1 : cn s = cn t
    · rw [if_pos (cnI.mpr c1)]
      by_cases c2 : cn (s &&& r) = cn (t &&& r)
      · rw [if_pos (cnI.mpr c2)]
        rcases nap0 (s ^^^ t) with ⟨k, h1, h2, h3, h4⟩ | ⟨h1, h2⟩
        · rw [h4, if_neg (nI_neg1 h1)]
          rcases rv_of_diff h1 h2 h3 with ⟨h5, h6⟩ | ⟨h5, h6⟩
          · rw [if_neg (fun c => by rw [(has4_0 s (n := k) (by omega)).mp c] at h5; cases h5)]
            constructor
            · intro c; exact absurd c (by decide)
            · omega
          · rw [if_pos ((has4_0 s (n := k) (by omega)).mpr h5)]
            constructor
            · omega
            · intro _; rfl
        · rw [h2, if_pos rfl]
          have := rv_same h1
          constructor
          · omega
          · intro _; rfl
      · rw [if_neg (fun c => c2 (cnI.mp c))]
        by_cases c3 : cn (s &&& r) ≤ cn (t &&& r)
        · rw [if_pos (cnL.mpr c3)]
          constructor
          · omega
          · intro _; rfl
        · rw [if_neg (fun c => c3 (cnL.mp c))]
          constructor
          · intro c; exact absurd c (by decide)
          · omega
    · rw [if_neg (fun c => c1 (cnI.mp c))]
      by_cases c3 : cn t ≤ cn s
      · rw [if_pos (cnL.mpr c3)]
        constructor
        · omega
        · intro _; rfl
      · rw [if_neg (fun c => c3 (cnL.mp c))]
        constructor
        · intro c; exact absurd c (by decide)
        · omega
/-- the lowest bit alone -/
theorem low_b {x : Int32} (i : Nat) (hi : i < 32) : bt (x &&& (-x)) i = true ↔ bt x i = true ∧ ∀ j, j < i → bt x j = false := by
  rw [b_and, Bool.and_eq_true]
  have e : bt (-x) i = (bt x i ^^ decide (∃ j, j < i ∧ bt x j = true)) := by
    show (-x).toBitVec.getLsbD i = _
    rw [Int32.toBitVec_neg, BitVec.getLsbD_neg]
    simp only [hi, decide_true, Bool.true_and]
    rfl
  rw [e]
  constructor
  · rintro ⟨h1, h2⟩
    refine ⟨h1, fun j hj => ?_⟩
    rw [h1, Bool.true_xor, Bool.not_eq_true'] at h2
    cases hb : bt x j
    · rfl
    · exact absurd ⟨j, hj, hb⟩ (of_decide_eq_false h2)
  · rintro ⟨h1, h2⟩
    refine ⟨h1, ?_⟩
    rw [h1, Bool.true_xor, Bool.not_eq_true']
    exact decide_eq_false fun ⟨j, hj, hb⟩ => by rw [h2 j hj] at hb; cases hb
end
section
/-! ===== plausible nodes, what explains what ===== -/
def PL (gu : AA) (r : Int32) (k : Nat) : Prop := bt r k = true ∨ (gu k ≠ 0 ∧ gu k &&& (r ^^^ (-1)) = 0)
theorem sub_iff {x r : Int32} (hx : M14 x) : x &&& (r ^^^ (-1)) = 0 ↔ ∀ t, t < 14 → bt x t = true → bt r t = true := by
  rw [z_iff (hx.and _)]
  constructor
  · intro h t ht hb
    have := h t ht
    rw [b_and, hb, Bool.true_and, not_b _ (by omega)] at this
    cases hr : bt r t
    · rw [hr] at this; cases this
    · rfl
  · intro h t ht
    rw [b_and, not_b _ (by omega)]
    cases hb : bt x t
    · rfl
    · rw [h t ht hb]; rfl
theorem sub_iff2 {x r : Int32} (hx : M14 x) : x &&& r = x ↔ ∀ t, t < 14 → bt x t = true → bt r t = true := by
  constructor
  · intro h t ht hb
    have h1 := b_and x r t
    rw [h, hb, Bool.true_and] at h1
    exact h1.symm
  · intro h
    refine M14.ext (hx.and _) hx fun t ht => ?_
    rw [b_and]
    cases hb : bt x t
    · rfl
    · rw [h t ht hb]; rfl
theorem plOf_L {gu : AA} {r : Int32} (hu : RM gu) : ∀ (c j n : Nat) (v : Int32), j + c = 14 → c < n → M14 v →
    p_X0_plausibleOf_L4 gu r n v (nI j) ∧ ∃ w, f_X0_plausibleOf_L4 gu r n v (nI j) = (w, nI 14) ∧ M14 w ∧ ∀ t, (bt w t = true ↔ bt v t = true ∨ (j ≤ t ∧ t < 14 ∧ (gu t ≠ 0 ∧ gu t &&& (r ^^^ (-1)) = 0))) := by
  intro c
  induction c with
  | zero =>
    intro j n v hj hn hv
    obtain ⟨n, rfl⟩ : ∃ k, n = k + 1 := ⟨n - 1, by omega⟩
    have e : j = 14 := by omega
    subst e
    refine ⟨?_, v, ?_, hv, fun t => ⟨Or.inl, ?_⟩⟩
    · rw [p_X0_plausibleOf_L4]; exact ⟨fun _ => trivial, fun h => absurd y14 h⟩
    · rw [f_X0_plausibleOf_L4, if_pos y14]
    · rintro (h | ⟨h1, h2, _⟩)
      · exact h
      · omega
  | succ c ih =>
    intro j n v hj hn hv
    obtain ⟨n, rfl⟩ : ∃ k, n = k + 1 := ⟨n - 1, by omega⟩
    have hj14 : j < 14 := by omega
    have eu : f_X1_users gu (nI j) = gu j := by unfold f_X1_users; rw [cl (by omega)]
    have pu : p_X1_users (nI j) := ⟨in14 hj14, trivial⟩
    by_cases c1 : gu j = 0
    · obtain ⟨a1, w, a2, a3, a4⟩ := ih (j + 1) n v (by omega) (by omega) hv
      refine ⟨?_, w, ?_, a3, fun t => ?_⟩
      · rw [p_X0_plausibleOf_L4]
        refine ⟨fun h => absurd h (n14 hj14), fun _ => ⟨pu, ?_⟩⟩
        rw [eu, nI_1]
        exact ⟨fun _ => a1, fun h => absurd c1 h⟩
      · rw [f_X0_plausibleOf_L4, if_neg (n14 hj14), eu, if_pos c1, nI_1]; exact a2
      · rw [a4 t]
        refine or_congr Iff.rfl ⟨fun ⟨h1, h2⟩ => ⟨by omega, h2⟩, fun ⟨h1, h2, h3⟩ => ⟨?_, h2, h3⟩⟩
        rcases Nat.lt_or_ge j t with q | q
        · exact q
        · rw [show t = j by omega] at h3; exact absurd c1 h3.1
    · by_cases c2 : gu j &&& (r ^^^ (-1)) = 0
      · obtain ⟨a1, w, a2, a3, a4⟩ := ih (j + 1) n (v ||| f_X4_only (nI j)) (by omega) (by omega) (hv.or (only_M hj14))
        refine ⟨?_, w, ?_, a3, fun t => ?_⟩
        · rw [p_X0_plausibleOf_L4]
          refine ⟨fun h => absurd h (n14 hj14), fun _ => ⟨pu, ?_⟩⟩
          rw [eu, nI_1]
          exact ⟨fun h => absurd h c1, fun _ => ⟨fun _ => a1, fun h => absurd c2 h⟩⟩
        · rw [f_X0_plausibleOf_L4, if_neg (n14 hj14), eu, if_neg c1, if_pos c2, nI_1]; exact a2
        · rw [a4 t, b_or, Bool.or_eq_true, only_bT hj14]
          constructor
          · rintro ((h | h) | ⟨h1, h2, h3⟩)
            · exact Or.inl h
            · subst h; exact Or.inr ⟨Nat.le_refl _, hj14, c1, c2⟩
            · exact Or.inr ⟨by omega, h2, h3⟩
          · rintro (h | ⟨h1, h2, h3⟩)
            · exact Or.inl (Or.inl h)
            · rcases Nat.lt_or_ge j t with q | q
              · exact Or.inr ⟨q, h2, h3⟩
              · exact Or.inl (Or.inr (by omega))
      · obtain ⟨a1, w, a2, a3, a4⟩ := ih (j + 1) n v (by omega) (by omega) hv
        refine ⟨?_, w, ?_, a3, fun t => ?_⟩
        · rw [p_X0_plausibleOf_L4]
          refine ⟨fun h => absurd h (n14 hj14), fun _ => ⟨pu, ?_⟩⟩
          rw [eu, nI_1]
          exact ⟨fun h => absurd h c1, fun _ => ⟨fun h => absurd h c2, fun _ => a1⟩⟩
        · rw [f_X0_plausibleOf_L4, if_neg (n14 hj14), eu, if_neg c1, if_neg c2, nI_1]; exact a2
        · rw [a4 t]
          refine or_congr Iff.rfl ⟨fun ⟨h1, h2⟩ => ⟨by omega, h2⟩, fun ⟨h1, h2, h3⟩ => ⟨?_, h2, h3⟩⟩
          rcases Nat.lt_or_ge j t with q | q
          · exact q
          · rw [show t = j by omega] at h3; exact absurd h3.2 c2
theorem plOf {gu : AA} {r : Int32} (hu : RM gu) (hr : M14 r) : p_X0_plausibleOf gu r ∧ M14 (f_X0_plausibleOf gu r) ∧ ∀ k, k < 14 → (bt (f_X0_plausibleOf gu r) k = true ↔ PL gu r k) := by
  obtain ⟨a1, w, a2, a3, a4⟩ := plOf_L (r := r) hu 14 0 15 r rfl (by decide) hr
  rw [nI_0] at a1 a2
  have e : f_X0_plausibleOf gu r = w := by unfold f_X0_plausibleOf; rw [a2]
  rw [e]
  refine ⟨⟨a1, fun _ _ _ => trivial⟩, a3, fun k hk => ?_⟩
  rw [a4 k]
  exact or_congr Iff.rfl ⟨fun ⟨_, _, h⟩ => h, fun h => ⟨Nat.zero_le _, hk, h⟩⟩
theorem explainedBy_b {ga : AA} {i t : Nat} (hi : i < 14) : bt (f_X1_explainedBy ga (nI i)) t = true ↔ t = i ∨ bt (ga i) t = true := by
  unfold f_X1_explainedBy
  rw [cl (j := i) (by omega), b_or, Bool.or_eq_true, only_bT hi]
theorem explainersOf_b {gb : AA} {i t : Nat} (hi : i < 14) : bt (f_X1_explainersOf gb (nI i)) t = true ↔ t = i ∨ bt (gb i) t = true := by
  unfold f_X1_explainersOf
  rw [cl (j := i) (by omega), b_or, Bool.or_eq_true, only_bT hi]
theorem explainedBy_M {gn gu gb ga : AA} (h : GI gn gu gb ga) {i : Nat} (hi : i < 14) : M14 (f_X1_explainedBy ga (nI i)) := by
  unfold f_X1_explainedBy
  rw [cl (j := i) (by omega)]
  exact (only_M hi).or (h.2.2.2.2.1 i hi).2
theorem explainersOf_M {gn gu gb ga : AA} (h : GI gn gu gb ga) {i : Nat} (hi : i < 14) : M14 (f_X1_explainersOf gb (nI i)) := by
  unfold f_X1_explainersOf
  rw [cl (j := i) (by omega)]
  exact (only_M hi).or (h.2.2.2.2.1 i hi).1
theorem GI.ba {gn gu gb ga : AA} (h : GI gn gu gb ga) {i j : Nat} (hi : i < 14) (hj : j < 14) : bt (ga j) i = true ↔ bt (gb i) j = true := (h.2.2.2.2.2 i j hi hj).2.trans (h.2.2.2.2.2 i j hi hj).1.symm
/-- a set explains all raised nodes -/
def EX (gb : AA) (r s : Int32) : Prop := ∀ k, k < 14 → bt r k = true → ∃ o, o < 14 ∧ bt s o = true ∧ (o = k ∨ bt (gb k) o = true)
theorem exAll_L {gn gu gb ga : AA} (h : GI gn gu gb ga) {r s : Int32} (hsM : M14 s) : ∀ (c j n : Nat), j + c = 14 → c < n → p_X0_explainsAll_L2 r gb s n (nI j) ∧ (f_X0_explainsAll_L2 r gb s n (nI j) = 0 ↔ ¬ ∀ k, j ≤ k → k < 14 → bt r k = true → ∃ o, o < 14 ∧ bt s o = true ∧ (o = k ∨ bt (gb k) o = true)) := by
  intro c
  induction c with
  | zero =>
    intro j n hj hn
    obtain ⟨n, rfl⟩ : ∃ k, n = k + 1 := ⟨n - 1, by omega⟩
    have e : j = 14 := by omega
    subst e
    constructor
    · rw [p_X0_explainsAll_L2]; exact ⟨fun _ => trivial, fun h => absurd y14 h⟩
    · rw [f_X0_explainsAll_L2, if_pos y14]
      constructor
      · intro q; exact absurd q (by decide)
      · intro q; exact absurd (fun k h1 h2 => by omega) q
  | succ c ih =>
    intro j n hj hn
    obtain ⟨n, rfl⟩ : ∃ k, n = k + 1 := ⟨n - 1, by omega⟩
    have hj14 : j < 14 := by omega
    obtain ⟨a1, a2⟩ := ih (j + 1) n (by omega) (by omega)
    have hh := has4_0 r (n := j) (by omega)
    have pe : p_X1_explainersOf (nI j) := ⟨in14 hj14, trivial⟩
    have hk : f_X1_explainersOf gb (nI j) &&& s = 0 ↔ ¬ ∃ o, o < 14 ∧ bt s o = true ∧ (o = j ∨ bt (gb j) o = true) := by
      rw [z_iff ((explainersOf_M h hj14).and s)]
      constructor
      · rintro q ⟨o, ho, h1, h2⟩
        have h3 := q o ho
        rw [b_and, h1, Bool.and_true, (explainersOf_b hj14).mpr h2] at h3
        cases h3
      · intro q o ho
        rw [b_and]
        cases hb : bt s o
        · rw [Bool.and_false]
        · rw [Bool.and_true]
          cases hc : bt (f_X1_explainersOf gb (nI j)) o
          · rfl
          · exact absurd ⟨o, ho, hb, (explainersOf_b hj14).mp hc⟩ q
    cases hb : bt r j
    · constructor
      · rw [p_X0_explainsAll_L2]; exact ⟨fun h => absurd h (n14 hj14), fun _ => ⟨fun _ => by rw [nI_1]; exact a1, fun h => absurd (hh.mpr hb) h⟩⟩
      · rw [f_X0_explainsAll_L2, if_neg (n14 hj14), if_pos (hh.mpr hb), nI_1, a2]
        refine not_congr ⟨fun q k h1 h2 h3 => ?_, fun q k h1 h2 h3 => q k (by omega) h2 h3⟩
        rcases Nat.lt_or_ge j k with z | z
        · exact q k z h2 h3
        · rw [show k = j by omega, hb] at h3; cases h3
    · have hnb : ¬ f_X4_has r (nI j) = 0 := fun c => by rw [hh.mp c] at hb; cases hb
      by_cases c : f_X1_explainersOf gb (nI j) &&& s = 0
      · constructor
        · rw [p_X0_explainsAll_L2]; exact ⟨fun h => absurd h (n14 hj14), fun _ => ⟨fun h => absurd h hnb, fun _ => ⟨pe, fun _ => trivial, fun h => absurd c h⟩⟩⟩
        · rw [f_X0_explainsAll_L2, if_neg (n14 hj14), if_neg hnb, if_pos c]
          constructor
          · intro _ q
            exact hk.mp c (q j (Nat.le_refl _) hj14 hb)
          · intro _; rfl
      · constructor
        · rw [p_X0_explainsAll_L2]; exact ⟨fun h => absurd h (n14 hj14), fun _ => ⟨fun h => absurd h hnb, fun _ => ⟨pe, fun h => absurd h c, fun _ => by rw [nI_1]; exact a1⟩⟩⟩
        · rw [f_X0_explainsAll_L2, if_neg (n14 hj14), if_neg hnb, if_neg c, nI_1, a2]
          refine not_congr ⟨fun q k h1 h2 h3 => ?_, fun q k h1 h2 h3 => q k (by omega) h2 h3⟩
          rcases Nat.lt_or_ge j k with z | z
          · exact q k z h2 h3
          · rw [show k = j by omega]
            exact Classical.byContradiction fun w => c (hk.mpr w)
theorem exAll {gn gu gb ga : AA} (h : GI gn gu gb ga) {r s : Int32} (hsM : M14 s) : p_X0_explainsAll r gb s ∧ (f_X0_explainsAll r gb s = 0 ↔ ¬ EX gb r s) := by
  obtain ⟨a1, a2⟩ := exAll_L h (r := r) hsM 14 0 15 rfl (by decide)
  rw [nI_0] at a1 a2
  exact ⟨a1, a2.trans (not_congr ⟨fun q k h1 h2 => q k (Nat.zero_le _) h1 h2, fun q k _ h1 h2 => q k h1 h2⟩)⟩
end
section
/-! ===== the subsets of a set, one after the other ===== -/
def Sub (s p : Int32) : Prop := ∀ k, bt s k = true → bt p k = true
theorem Sub.M {s p : Int32} (h : Sub s p) (hp : M14 p) : M14 s := fun i hi => by
  cases hb : bt s i
  · rfl
  · have := h i hb
    rw [hp i hi] at this
    cases this
/-- the number of a subset -/
def cm (p s : Int32) : Nat → Nat
  | 0 => 0
  | k + 1 => cm p s k + (if bt s k then 2 ^ cb p k else 0)
theorem cm_lt {p s : Int32} (h : Sub s p) : ∀ k, cm p s k + 1 ≤ 2 ^ cb p k
  | 0 => Nat.le_refl _
  | k + 1 => by
    have ih := cm_lt h k
    rw [cm, cb]
    cases hs : bt s k
    · rw [if_neg (by decide)]
      have : 2 ^ cb p k ≤ 2 ^ (cb p k + if bt p k = true then 1 else 0) := Nat.pow_le_pow_right (by decide) (Nat.le_add_right _ _)
      omega
    · rw [if_pos rfl, h k hs, if_pos rfl, Nat.pow_succ]
      omega
theorem cm_full (p : Int32) : ∀ k, cm p p k + 1 = 2 ^ cb p k
  | 0 => rfl
  | k + 1 => by
    have ih := cm_full p k
    rw [cm, cb]
    cases hs : bt p k
    · rw [if_neg (by decide), if_neg (by decide)]; exact ih
    · rw [if_pos rfl, if_pos rfl, Nat.pow_succ]; omega
theorem cm_inj {p s d : Int32} (hs : Sub s p) (hd : Sub d p) : ∀ k, cm p s k = cm p d k → ∀ i, i < k → bt s i = bt d i
  | 0, _, i, hi => absurd hi (Nat.not_lt_zero i)
  | k + 1, h, i, hi => by
    rw [cm, cm] at h
    have l1 := cm_lt hs k
    have l2 := cm_lt hd k
    have hb : bt s k = bt d k := by
      revert h
      cases bt s k <;> cases bt d k <;> simp <;> omega
    rcases Nat.lt_or_ge i k with q | q
    · rw [hb] at h
      exact cm_inj hs hd k (by omega) i q
    · rw [show i = k by omega]; exact hb
theorem cm_one {p s d : Int32} (hp : M14 p) (hs : Sub s p) (hd : Sub d p) (h : cm p s 14 = cm p d 14) : s = d := M14.ext (hs.M hp) (hd.M hp) (cm_inj hs hd 14 h)
/-- the subset before: by its bits -/
def Prd (p s s' : Int32) : Prop := ∀ i, i < 14 → (bt s' i = true ↔ bt p i = true ∧ ((bt s i = true ∧ ∃ j, j < i ∧ bt s j = true) ∨ (bt s i = false ∧ ¬ ∃ j, j < i ∧ bt s j = true)))
theorem cm_prd {p s s' : Int32} (h : Sub s p) (hp : Prd p s s') : ∀ k, k ≤ 14 → ((∀ i, i < k → bt s i = false) → cm p s' k = cm p p k ∧ cm p s k = 0) ∧ ((∃ i, i < k ∧ bt s i = true) → cm p s' k + 1 = cm p s k)
  | 0, _ => ⟨fun _ => ⟨rfl, rfl⟩, fun ⟨i, hi, _⟩ => absurd hi (Nat.not_lt_zero i)⟩
  | k + 1, hk => by
    obtain ⟨h1, h2⟩ := cm_prd h hp k (by omega)
    have hq := hp k (by omega)
    constructor
    · intro hn
      obtain ⟨h3, h4⟩ := h1 (fun i hi => hn i (by omega))
      have hne : ¬ ∃ j, j < k ∧ bt s j = true := fun ⟨j, hj, hb⟩ => by rw [hn j (by omega)] at hb; cases hb
      have e : bt s' k = bt p k := by
        rw [Bool.eq_iff_iff, hq, hn k (by omega)]
        simp only [Bool.false_eq_true, false_and, true_and, false_or]
        exact ⟨fun q => q.1, fun q => ⟨q, hne⟩⟩
      rw [cm, cm, cm, h3, h4, e, hn k (by omega)]
      exact ⟨rfl, rfl⟩
    · rintro ⟨i, hi, hb⟩
      by_cases c : ∃ j, j < k ∧ bt s j = true
      · have h3 := h2 c
        have e : bt s' k = bt s k := by
          rw [Bool.eq_iff_iff, hq]
          constructor
          · rintro ⟨_, (⟨q, _⟩ | ⟨_, q⟩)⟩
            · exact q
            · exact absurd c q
          · intro q
            exact ⟨h k q, Or.inl ⟨q, c⟩⟩
        rw [cm, cm, e]
        omega
      · have hn : ∀ j, j < k → bt s j = false := fun j hj => by
          cases hc : bt s j
          · rfl
          · exact absurd ⟨j, hj, hc⟩ c
        have hbk : bt s k = true := by
          rcases Nat.lt_or_ge i k with q | q
          · rw [hn i q] at hb; cases hb
          · rw [show k = i by omega]; exact hb
        obtain ⟨h3, h4⟩ := h1 hn
        have e : bt s' k = false := by
          cases hc : bt s' k
          · rfl
          · rcases (hq.mp hc).2 with ⟨_, q⟩ | ⟨q, _⟩
            · exact absurd q c
            · rw [hbk] at q; cases q
        have h5 := cm_full p k
        rw [cm, cm, h3, h4, e, hbk]
        simp
        omega
theorem cm_prd14 {p s s' : Int32} (hp : M14 p) (h : Sub s p) (hq : Prd p s s') (hne : s ≠ 0) : cm p s' 14 + 1 = cm p s 14 := (cm_prd h hq 14 (Nat.le_refl _)).2 ((nz_iff (h.M hp)).mp hne)
theorem cm_zero {p s : Int32} (hp : M14 p) (h : Sub s p) : cm p s 14 = 0 ↔ s = 0 := by
  constructor
  · intro e
    refine cm_one hp h (fun k hk => by rw [b_0] at hk; cases hk) ?_
    rw [e]
    have : ∀ k, cm p 0 k = 0 := fun k => by
      induction k with
      | zero => rfl
      | succ k ih => rw [cm, ih, b_0]; rfl
    exact (this 14).symm
  · intro e
    subst e
    have : ∀ k, cm p 0 k = 0 := fun k => by
      induction k with
      | zero => rfl
      | succ k ih => rw [cm, ih, b_0]; rfl
    exact this 14
theorem neg_b {x : Int32} {i : Nat} (hi : i < 32) : bt (-x) i = (bt x i ^^ decide (∃ j, j < i ∧ bt x j = true)) := by
  show (-x).toBitVec.getLsbD i = _
  rw [Int32.toBitVec_neg, BitVec.getLsbD_neg]
  simp only [hi, decide_true, Bool.true_and]
  rfl
theorem pred_eq (s : Int32) : s - 1 = (-s) ^^^ (-1) := by
  refine Int32.toBitVec_inj.mp ?_
  rw [Int32.toBitVec_sub, Int32.toBitVec_xor, Int32.toBitVec_neg]
  show s.toBitVec - 1#32 = (-s.toBitVec) ^^^ BitVec.allOnes 32
  rw [BitVec.xor_allOnes, BitVec.not_eq_neg_add, BitVec.neg_neg, BitVec.sub_eq_add_neg]
theorem prd_sub1 {p s : Int32} : Prd p s ((s - 1) &&& p) := fun i hi => by
  rw [pred_eq, b_and, not_b _ (by omega), neg_b (by omega), Bool.and_eq_true, and_comm]
  refine and_congr Iff.rfl ?_
  by_cases c : ∃ j, j < i ∧ bt s j = true
  · rw [decide_eq_true c]
    cases bt s i <;> simp [c]
  · rw [decide_eq_false c]
    cases bt s i <;> simp [c]
theorem Sub.andR (x p : Int32) : Sub (x &&& p) p := fun k hk => by
  rw [b_and, Bool.and_eq_true] at hk
  exact hk.2
end
section
/-! ===== the best diagnosis ===== -/
def Dg (gb : AA) (r p d : Int32) : Prop := Sub d p ∧ EX gb r d
def Bst (gb : AA) (r p b : Int32) : Prop := Dg gb r p b ∧ ∀ d, Dg gb r p d → ¬ Btr r d b
theorem Bst.one {gb : AA} {r p b b' : Int32} (hp : M14 p) (h : Bst gb r p b) (h' : Bst gb r p b') : b = b' := by
  by_cases e : b = b'
  · exact e
  · rcases Btr.total (r := r) (h.1.1.M hp) (h'.1.1.M hp) e with q | q
    · exact absurd q (h'.2 b h.1)
    · exact absurd q (h.2 b' h'.1)
theorem EX.self (gb : AA) (r : Int32) : EX gb r r := fun k hk h => ⟨k, hk, h, Or.inl rfl⟩
theorem M14.le0 {s : Int32} (h : M14 s) : s ≤ 0 ↔ s = 0 := by
  obtain ⟨n, hn, rfl⟩ := h.num
  rw [show (0 : Int32) = nI 0 from rfl, nI_leI (by omega) (by decide), nI_eq (by omega) (by decide)]
  omega
/-- the set of the plausible nodes, as both have it -/
theorem plSub {gu : AA} {r : Int32} (hu : RM gu) (hr : M14 r) : Sub r (f_X0_plausibleOf gu r) := fun k hk => ((plOf hu hr).2.2 k (hr.lt hk)).mpr (Or.inl hk)
/-! ===== by trying ===== -/
theorem xor_b (p s : Int32) (i : Nat) : bt (p ^^^ s) i = (bt p i ^^ bt s i) := b_xor p s i
theorem sub_neg {p s : Int32} (h : Sub s p) : s - p = -(p ^^^ s) := by
  have e : p = s + (p ^^^ s) := by
    refine Int32.toBitVec_inj.mp ?_
    rw [Int32.toBitVec_add]
    have hz : s.toBitVec &&& (p ^^^ s).toBitVec = 0#32 := by
      refine BitVec.eq_of_getLsbD_eq fun i hi => ?_
      show (s.toBitVec &&& (p ^^^ s).toBitVec).getLsbD i = (0#32).getLsbD i
      rw [BitVec.getLsbD_and, BitVec.getLsbD_zero]
      show (bt s i && bt (p ^^^ s) i) = false
      rw [b_xor]
      cases hb : bt s i
      · rfl
      · rw [h i hb]; rfl
    rw [BitVec.add_eq_or_of_and_eq_zero _ _ hz]
    refine BitVec.eq_of_getLsbD_eq fun i hi => ?_
    show bt p i = (s.toBitVec ||| (p ^^^ s).toBitVec).getLsbD i
    rw [BitVec.getLsbD_or]
    show bt p i = (bt s i || bt (p ^^^ s) i)
    rw [b_xor]
    cases hb : bt s i
    · simp
    · rw [h i hb]; rfl
  have key : ∀ S Q : BitVec 32, S - (S + Q) = -Q := fun S Q => by bv_omega
  refine Int32.toBitVec_inj.mp ?_
  rw [Int32.toBitVec_sub, Int32.toBitVec_neg]
  have e2 := congrArg Int32.toBitVec e
  rw [Int32.toBitVec_add] at e2
  rw [← key s.toBitVec (p ^^^ s).toBitVec, ← e2]
theorem two_k {k : Nat} (hk : k ≤ 14) : (1 : Int32) <<< (nI k &&& 31) = nI (2 ^ k) := by
  have h1 : 2 ^ k ≤ 2 ^ 14 := Nat.pow_le_pow_right (by decide) hk
  have h2 : 2 ^ 14 = 16384 := by decide
  have h3 := pk_shlN (n := 1) (nI k &&& 31) k (s_l k (by omega)) (by omega)
  rw [Nat.one_mul] at h3
  exact h3
theorem next_prd {p s : Int32} (h : Sub s p) : Prd p (p ^^^ s) (p ^^^ ((s - p) &&& p)) := fun i hi => by
  rw [b_xor, b_and, sub_neg h, neg_b (by omega)]
  have hq : bt (p ^^^ s) i = true → bt p i = true := fun w => by
    rw [b_xor] at w
    cases hb : bt s i
    · rw [hb, Bool.xor_false] at w; exact w
    · exact h i hb
  by_cases c : ∃ j, j < i ∧ bt (p ^^^ s) j = true
  · rw [decide_eq_true c]
    cases hb : bt p i <;> cases hc : bt (p ^^^ s) i <;> simp [c]
  · rw [decide_eq_false c]
    cases hb : bt p i <;> cases hc : bt (p ^^^ s) i <;> simp [c]
theorem SubX {p s : Int32} (hp : M14 p) (h : Sub s p) : Sub (p ^^^ s) p := fun i hi => by
  rw [b_xor] at hi
  cases hb : bt s i
  · rw [hb, Bool.xor_false] at hi; exact hi
  · exact h i hb
theorem try_L {gn gu gb ga : AA} {r p : Int32} (h : GI gn gu gb ga) (hr : M14 r) (hp : M14 p) : ∀ (c t n : Nat) (b s : Int32), t + c = 2 ^ cn p → c < n → (t < 2 ^ cn p → Sub s p ∧ cm p (p ^^^ s) 14 + t + 1 = 2 ^ cn p) → Dg gb r p b → (∀ d, Dg gb r p d → 2 ^ cn p ≤ cm p (p ^^^ d) 14 + t → ¬ Btr r d b) →
    p_X0_bestByTrying_L20 r p gb n b s (nI t) ∧ ∃ b' x y, f_X0_bestByTrying_L20 r p gb n b s (nI t) = (b', x, y) ∧ Bst gb r p b' := by
  have hk : cn p ≤ 14 := cn_le p
  have hK : 2 ^ cn p ≤ 16384 := by
    have h1 : 2 ^ cn p ≤ 2 ^ 14 := Nat.pow_le_pow_right (by decide) hk
    have h2 : 2 ^ 14 = 16384 := by decide
    omega
  have hend : ∀ t : Nat, t ≤ 16384 → (((1 : Int32) <<< (f_J6_bitCount_0f7a4 p &&& 31)) ≤ nI t ↔ 2 ^ cn p ≤ t) := fun t ht => by
    rw [count6 hp, two_k hk]
    exact nI_leI (by omega) (by omega)
  intro c
  induction c with
  | zero =>
    intro t n b s ht hn _ hb hq
    obtain ⟨n, rfl⟩ : ∃ k, n = k + 1 := ⟨n - 1, by omega⟩
    have e := (hend t (by omega)).mpr (by omega)
    refine ⟨?_, b, s, nI t, ?_, hb, fun d hd => hq d hd (by omega)⟩
    · rw [p_X0_bestByTrying_L20]; exact ⟨fun _ => trivial, fun h => absurd e h⟩
    · rw [f_X0_bestByTrying_L20, if_pos e]
  | succ c ih =>
    intro t n b s ht hn hst hb hq
    obtain ⟨n, rfl⟩ : ∃ k, n = k + 1 := ⟨n - 1, by omega⟩
    obtain ⟨hss, hcm⟩ := hst (by omega)
    have e : ¬ ((1 : Int32) <<< (f_J6_bitCount_0f7a4 p &&& 31)) ≤ nI t := fun w => by have := (hend t (by omega)).mp w; omega
    have hsM := hss.M hp
    have hqs := SubX hp hss
    have hst' : t + 1 < 2 ^ cn p → Sub ((s - p) &&& p) p ∧ cm p (p ^^^ ((s - p) &&& p)) 14 + (t + 1) + 1 = 2 ^ cn p := fun hlt => by
      refine ⟨Sub.andR _ _, ?_⟩
      have hne : p ^^^ s ≠ 0 := fun z => by
        have := (cm_zero hp hqs).mpr z
        omega
      have := cm_prd14 hp hqs (next_prd hss) hne
      omega
    have hone : ∀ d, Dg gb r p d → 2 ^ cn p ≤ cm p (p ^^^ d) 14 + (t + 1) → ¬ 2 ^ cn p ≤ cm p (p ^^^ d) 14 + t → d = s := fun d hd h1 h2 => by
      have e1 := cm_one hp (SubX hp hd.1) hqs (by omega)
      refine M14.ext (hd.1.M hp) hsM fun i hi => ?_
      have this : bt (p ^^^ d) i = bt (p ^^^ s) i := congrArg (fun z => bt z i) e1
      rw [b_xor, b_xor] at this
      revert this
      cases bt p i <;> cases bt d i <;> cases bt s i <;> simp
    have keep : ¬ (Dg gb r p s ∧ Btr r s b) → ∀ d, Dg gb r p d → 2 ^ cn p ≤ cm p (p ^^^ d) 14 + (t + 1) → ¬ Btr r d b := fun hn d hd h1 => by
      by_cases h2 : 2 ^ cn p ≤ cm p (p ^^^ d) 14 + t
      · exact hq d hd h2
      · have e := hone d hd h1 h2
        subst e
        exact fun z => hn ⟨hd, z⟩
    obtain ⟨q1, q2⟩ := better4 (r := r) hsM (hb.1.M hp)
    obtain ⟨x1, x2⟩ := exAll h (r := r) hsM
    by_cases c2 : f_X0_isBetter r s b = 0
    · obtain ⟨a1, b', x, y, a2, a3⟩ := ih (t + 1) n b _ (by omega) (by omega) hst' hb (keep (fun ⟨_, z⟩ => (q2.mp c2) z))
      refine ⟨?_, b', x, y, ?_, a3⟩
      · rw [p_X0_bestByTrying_L20]; exact ⟨fun h => absurd h e, fun _ => ⟨q1, fun _ => by rw [nI_1]; exact a1, fun h => absurd c2 h⟩⟩
      · rw [f_X0_bestByTrying_L20, if_neg e, if_pos c2, nI_1]; exact a2
    · have hB : Btr r s b := Classical.byContradiction fun w => c2 (q2.mpr w)
      by_cases c3 : f_X0_explainsAll r gb s = 0
      · obtain ⟨a1, b', x, y, a2, a3⟩ := ih (t + 1) n b _ (by omega) (by omega) hst' hb (keep (fun ⟨z, _⟩ => (x2.mp c3) z.2))
        refine ⟨?_, b', x, y, ?_, a3⟩
        · rw [p_X0_bestByTrying_L20]; exact ⟨fun h => absurd h e, fun _ => ⟨q1, fun h => absurd h c2, fun _ => ⟨x1, fun _ => by rw [nI_1]; exact a1, fun h => absurd c3 h⟩⟩⟩
        · rw [f_X0_bestByTrying_L20, if_neg e, if_neg c2, if_pos c3, nI_1]; exact a2
      · have hD : Dg gb r p s := ⟨hss, Classical.byContradiction fun w => c3 (x2.mpr w)⟩
        obtain ⟨a1, b', x, y, a2, a3⟩ := ih (t + 1) n s _ (by omega) (by omega) hst' hD (fun d hd h1 => by
          by_cases h2 : 2 ^ cn p ≤ cm p (p ^^^ d) 14 + t
          · exact fun z => hq d hd h2 (z.trans hB)
          · have e := hone d hd h1 h2
            subst e
            exact Btr.irr)
        refine ⟨?_, b', x, y, ?_, a3⟩
        · rw [p_X0_bestByTrying_L20]; exact ⟨fun h => absurd h e, fun _ => ⟨q1, fun h => absurd h c2, fun _ => ⟨x1, fun h => absurd h c3, fun _ => by rw [nI_1]; exact a1⟩⟩⟩
        · rw [f_X0_bestByTrying_L20, if_neg e, if_neg c2, if_neg c3, nI_1]; exact a2
theorem try_spec {gn gu gb ga : AA} {r : Int32} (h : GI gn gu gb ga) (hr : M14 r) : p_X0_bestByTrying r (f_X0_plausibleOf gu r) gb ∧ Bst gb r (f_X0_plausibleOf gu r) (f_X0_bestByTrying r (f_X0_plausibleOf gu r) gb) := by
  obtain ⟨-, hpM, -⟩ := plOf h.2.1 hr
  have hK : 2 ^ cn (f_X0_plausibleOf gu r) ≤ 16384 := by
    have h1 : 2 ^ cn (f_X0_plausibleOf gu r) ≤ 2 ^ 14 := Nat.pow_le_pow_right (by decide) (cn_le _)
    have h2 : 2 ^ 14 = 16384 := by decide
    omega
  have hx0 : f_X0_plausibleOf gu r ^^^ 0 = f_X0_plausibleOf gu r := b_ext fun i _ => by rw [b_xor, b_0, Bool.xor_false]
  obtain ⟨a1, b', x, y, a2, a3⟩ := try_L h hr hpM (2 ^ cn (f_X0_plausibleOf gu r)) 0 16385 r 0 (Nat.zero_add _) (by omega) (fun _ => ⟨fun k hk => (by rw [b_0] at hk; cases hk), by rw [hx0]; exact cm_full _ 14⟩) ⟨plSub h.2.1 hr, EX.self gb r⟩ (fun d hd hle => by
    have := cm_lt (SubX hpM hd.1) 14
    have h4 : 2 ^ cb (f_X0_plausibleOf gu r) 14 = 2 ^ cn (f_X0_plausibleOf gu r) := rfl
    omega)
  rw [nI_0] at a1 a2
  refine ⟨⟨a1, fun _ _ _ _ => trivial⟩, ?_⟩
  unfold f_X0_bestByTrying
  rw [a2]
  exact a3
end
section
/-! ===== by a search ===== -/
theorem cb_sub {a b : Int32} (h : Sub a b) : ∀ k, cb a k ≤ cb b k
  | 0 => Nat.le_refl _
  | k + 1 => by
    have ih := cb_sub h k
    rw [cb, cb]
    cases ha : bt a k
    · rw [if_neg (by decide)]
      split <;> omega
    · rw [h k ha]
      omega
theorem cb_sub_lt {a b : Int32} (h : Sub a b) {j : Nat} (ha : bt a j = false) (hb : bt b j = true) : ∀ {k : Nat}, j < k → cb a k < cb b k
  | 0, hk => absurd hk (Nat.not_lt_zero _)
  | k + 1, hk => by
    rw [cb, cb]
    rcases Nat.lt_or_ge j k with q | q
    · have ih := cb_sub_lt h ha hb q
      cases hc : bt a k
      · rw [if_neg (by decide)]
        split <;> omega
      · rw [h k hc]
        omega
    · have e : j = k := by omega
      subst e
      have := cb_sub h j
      rw [ha, hb, if_neg (by decide), if_pos rfl]
      omega
theorem cb_add {a : Int32} {j : Nat} (hj : j < 14) (ha : bt a j = false) : ∀ k, cb (a ||| f_X4_only (nI j)) k = cb a k + (if j < k then 1 else 0)
  | 0 => rfl
  | k + 1 => by
    rw [cb, cb, cb_add hj ha k, b_or]
    rcases Nat.lt_trichotomy j k with q | q | q
    · have e : bt (f_X4_only (nI j)) k = false := by
        cases hc : bt (f_X4_only (nI j)) k
        · rfl
        · have := (only_bT hj).mp hc; omega
      rw [e, Bool.or_false, if_pos q, if_pos (show j < k + 1 by omega)]
      omega
    · subst q
      rw [(only_bT hj).mpr rfl, ha, Bool.or_true, if_neg (Nat.lt_irrefl _), if_pos (Nat.lt_succ_self _), if_pos rfl, if_neg (by decide)]
    · have e : bt (f_X4_only (nI j)) k = false := by
        cases hc : bt (f_X4_only (nI j)) k
        · rfl
        · have := (only_bT hj).mp hc; omega
      rw [e, Bool.or_false, if_neg (show ¬ j < k by omega), if_neg (show ¬ j < k + 1 by omega)]
      omega
theorem cn_add {a : Int32} {j : Nat} (hj : j < 14) (ha : bt a j = false) : cn (a ||| f_X4_only (nI j)) = cn a + 1 := by
  unfold cn
  rw [cb_add hj ha 14, if_pos hj]
theorem cn_sub {a b : Int32} (h : Sub a b) : cn a ≤ cn b := cb_sub h 14
theorem cn_sub_lt {a b : Int32} (h : Sub a b) {j : Nat} (hj : j < 14) (ha : bt a j = false) (hb : bt b j = true) : cn a < cn b := cb_sub_lt h ha hb hj
theorem Btr.cn_le {r s t : Int32} (h : Btr r s t) : cn s ≤ cn t := by unfold Btr at h; omega
theorem Btr.of_cn {r s t : Int32} (h : cn s < cn t) : Btr r s t := Or.inl h
theorem not_Btr_cn {r s t : Int32} (h : cn t < cn s) : ¬ Btr r s t := by unfold Btr; omega
/-- what a search is begun with -/
def Ok (gb : AA) (r p ch un al be : Int32) : Prop := Sub ch p ∧ Sub al p ∧ (∀ k, bt ch k = true → bt al k = false) ∧ (M14 un ∧ ∀ k, k < 14 → (bt un k = true ↔ bt r k = true ∧ ¬ ∃ o, o < 14 ∧ bt ch o = true ∧ (o = k ∨ bt (gb k) o = true))) ∧ Dg gb r p be
/-- what it ends with -/
def SS (gb : AA) (r p ch al be b : Int32) : Prop := Dg gb r p b ∧ (b = be ∨ Btr r b be) ∧ ∀ d, Dg gb r p d → Sub ch d → (∀ k, bt d k = true → bt ch k = true ∨ bt al k = true) → ¬ Btr r d b
theorem barely {al : Int32} {j : Nat} (hj : j < 14) {k : Nat} : bt (al &&& (f_X4_only (nI j) ^^^ (-1))) k = true ↔ bt al k = true ∧ k < 32 ∧ k ≠ j := by
  rw [b_and, Bool.and_eq_true]
  refine and_congr Iff.rfl ?_
  rcases Nat.lt_or_ge k 32 with q | q
  · rw [not_b _ q, Bool.not_eq_true']
    constructor
    · intro h
      refine ⟨q, fun e => ?_⟩
      rw [e, (only_bT hj).mpr rfl] at h; cases h
    · rintro ⟨_, h⟩
      cases hc : bt (f_X4_only (nI j)) k
      · rfl
      · exact absurd ((only_bT hj).mp hc) h
  · rw [b_big q]
    constructor
    · intro h; cases h
    · rintro ⟨h, _⟩; omega
theorem search_L {gn gu gb ga : AA} {r p : Int32} (h : GI gn gu gb ga) (hp : M14 p) {N : Nat} (IH : ∀ ch un al be, 15 ≤ N + cn ch → Ok gb r p ch un al be → p_X0_search r gb ga N (nI (cn ch)) ch un al be ∧ SS gb r p ch al be (f_X0_search r gb ga N (nI (cn ch)) ch un al be))
    {ch un al be : Int32} (hN : 15 ≤ N + 1 + cn ch) (hok : Ok gb r p ch un al be) {m : Nat} (hm : m < 14) (hmb : bt un m = true) (hmn : f_X4_nodeAtPlace un 0 = nI m) : ∀ (c j n : Nat) (fo le : Int32), j + c = 14 → c < n → Dg gb r p fo → (fo = be ∨ Btr r fo be) →
      (∀ d, Dg gb r p d → Sub ch d → (∀ k, bt d k = true → bt ch k = true ∨ bt al k = true) → (∃ k, k < j ∧ bt (f_X1_explainersOf gb (nI m) &&& al) k = true ∧ bt d k = true) → ¬ Btr r d fo) →
      (cn fo ≤ cn ch ∨ ∀ k, bt le k = true ↔ bt al k = true ∧ ¬ (k < j ∧ bt (f_X1_explainersOf gb (nI m) &&& al) k = true)) →
    p_X0_search_L55 gb ga (nI (cn ch)) ch un al (f_X0_search r gb ga N) (p_X0_search r gb ga N) n fo le (nI j) ∧ ∃ b x y, f_X0_search_L55 gb ga (nI (cn ch)) ch un al (f_X0_search r gb ga N) n fo le (nI j) = (b, x, y) ∧ Dg gb r p b ∧ (b = be ∨ Btr r b be) ∧
      (∀ d, Dg gb r p d → Sub ch d → (∀ k, bt d k = true → bt ch k = true ∨ bt al k = true) → (∃ k, k < 14 ∧ bt (f_X1_explainersOf gb (nI m) &&& al) k = true ∧ bt d k = true) → ¬ Btr r d b) := by
  obtain ⟨hch, hal, hdis, hun, hbe⟩ := id hok
  intro c
  induction c with
  | zero =>
    intro j n fo le hj hn hfo hfb hcov _
    obtain ⟨n, rfl⟩ : ∃ k, n = k + 1 := ⟨n - 1, by omega⟩
    have e : j = 14 := by omega
    subst e
    refine ⟨?_, fo, le, nI 14, ?_, hfo, hfb, hcov⟩
    · rw [p_X0_search_L55]; exact ⟨fun _ => trivial, fun h => absurd y14 h⟩
    · rw [f_X0_search_L55, if_pos y14]
  | succ c ih =>
    intro j n fo le hj hn hfo hfb hcov hle
    obtain ⟨n, rfl⟩ : ∃ k, n = k + 1 := ⟨n - 1, by omega⟩
    have hj14 : j < 14 := by omega
    have hcf := cn_le fo
    have hcc := cn_le ch
    obtain ⟨y6, hy6⟩ : ∃ y : Int32, y = (if 14 ≤ nI (cn ch) then (0 : Int32) else (if f_J6_bitCount_0f7a4 fo ≤ nI (cn ch) then (0 : Int32) else (1 : Int32))) := ⟨_, rfl⟩
    have h6 : y6 = 0 ↔ cn fo ≤ cn ch := by
      rw [hy6, count6 (hfo.1.M hp)]
      by_cases q : 14 ≤ cn ch
      · rw [if_pos ((le14 (j := cn ch) (by omega)).mpr q)]
        exact ⟨fun _ => by omega, fun _ => rfl⟩
      · rw [if_neg (fun w => q ((le14 (j := cn ch) (by omega)).mp w))]
        by_cases q2 : cn fo ≤ cn ch
        · rw [if_pos (cnL.mpr q2)]; exact ⟨fun _ => q2, fun _ => rfl⟩
        · rw [if_neg (fun w => q2 (cnL.mp w))]
          exact ⟨fun w => absurd w (by decide), fun w => absurd w q2⟩
    have hh := has4_0 (f_X1_explainersOf gb (nI m) &&& al) (n := j) (by omega)
    -- not tried
    have skip : (bt (f_X1_explainersOf gb (nI m) &&& al) j = false ∨ cn fo ≤ cn ch) → (∀ d, Dg gb r p d → Sub ch d → (∀ k, bt d k = true → bt ch k = true ∨ bt al k = true) → (∃ k, k < j + 1 ∧ bt (f_X1_explainersOf gb (nI m) &&& al) k = true ∧ bt d k = true) → ¬ Btr r d fo) ∧
        (cn fo ≤ cn ch ∨ ∀ k, bt le k = true ↔ bt al k = true ∧ ¬ (k < j + 1 ∧ bt (f_X1_explainersOf gb (nI m) &&& al) k = true)) := fun hs => by
      refine ⟨fun d hd h1 h2 ⟨k, hk, h3, h4⟩ => ?_, ?_⟩
      · rcases Nat.lt_or_ge k j with q | q
        · exact hcov d hd h1 h2 ⟨k, q, h3, h4⟩
        · have e : k = j := by omega
          subst e
          rcases hs with hs | hs
          · rw [hs] at h3; cases h3
          · have hkal : bt al k = true := by
              rw [b_and, Bool.and_eq_true] at h3
              exact h3.2
            have hkc : bt ch k = false := by
              cases hc : bt ch k
              · rfl
              · rw [hdis k hc] at hkal; cases hkal
            have := cn_sub_lt h1 hj14 hkc h4
            exact not_Btr_cn (by omega)
      · rcases hs with hs | hs
        · rcases hle with q | q
          · exact Or.inl q
          · refine Or.inr fun k => (q k).trans (and_congr Iff.rfl (not_congr ⟨fun ⟨a, b⟩ => ⟨by omega, b⟩, fun ⟨a, b⟩ => ⟨?_, b⟩⟩))
            rcases Nat.lt_or_ge k j with z | z
            · exact z
            · rw [show k = j by omega, hs] at b; cases b
        · exact Or.inl hs
    by_cases c1 : f_X4_has (f_X1_explainersOf gb (nI m) &&& al) (nI j) = 0
    · obtain ⟨s1, s2⟩ := skip (Or.inl (hh.mp c1))
      obtain ⟨a1, b, x, y, a2, a3, a4, a5⟩ := ih (j + 1) n fo le (by omega) (by omega) hfo hfb s1 s2
      refine ⟨?_, b, x, y, ?_, a3, a4, a5⟩
      · rw [p_X0_search_L55]
        refine ⟨fun h => absurd h (n14 hj14), fun _ => ⟨⟨fun _ => trivial, fun _ => ⟨fun _ => trivial, fun _ => trivial⟩⟩, fun z hz => ?_⟩⟩
        rw [hmn, nI_1]
        exact ⟨fun _ => a1, fun h => absurd c1 h⟩
      · rw [f_X0_search_L55, if_neg (n14 hj14)]
        dsimp only
        rw [hmn, if_pos c1, nI_1]
        exact a2
    · have hT : bt (f_X1_explainersOf gb (nI m) &&& al) j = true := by
        cases hb : bt (f_X1_explainersOf gb (nI m) &&& al) j
        · exact absurd (hh.mpr hb) c1
        · rfl
      by_cases c2 : y6 = 0
      · obtain ⟨s1, s2⟩ := skip (Or.inr (h6.mp c2))
        obtain ⟨a1, b, x, y, a2, a3, a4, a5⟩ := ih (j + 1) n fo le (by omega) (by omega) hfo hfb s1 s2
        refine ⟨?_, b, x, y, ?_, a3, a4, a5⟩
        · rw [p_X0_search_L55]
          refine ⟨fun h => absurd h (n14 hj14), fun _ => ⟨⟨fun _ => trivial, fun _ => ⟨fun _ => trivial, fun _ => trivial⟩⟩, fun z hz => ?_⟩⟩
          rw [← hy6] at hz
          subst hz
          rw [hmn, nI_1]
          exact ⟨fun h => absurd h c1, fun _ => ⟨fun _ => a1, fun h => absurd c2 h⟩⟩
        · rw [f_X0_search_L55, if_neg (n14 hj14), ← hy6]
          dsimp only
          rw [hmn, if_neg c1, if_pos c2, nI_1]
          exact a2
      · -- tried
        have hlt : cn ch < cn fo := by
          have := (not_congr h6).mp c2
          omega
        have hle2 : ∀ k, bt le k = true ↔ bt al k = true ∧ ¬ (k < j ∧ bt (f_X1_explainersOf gb (nI m) &&& al) k = true) := by
          rcases hle with q | q
          · omega
          · exact q
        have hTj : bt (f_X1_explainersOf gb (nI m)) j = true ∧ bt al j = true := by
          rw [b_and, Bool.and_eq_true] at hT
          exact hT
        have hjc : bt ch j = false := by
          cases hc : bt ch j
          · rfl
          · have := hdis j hc
            rw [hTj.2] at this; cases this
        have hcn : cn (ch ||| f_X4_only (nI j)) = cn ch + 1 := cn_add hj14 hjc
        have hleM : M14 le := fun k hk => by
          cases hb : bt le k
          · rfl
          · have := ((hle2 k).mp hb).1
            rw [hal.M hp k hk] at this; cases this
        have hok2 : Ok gb r p (ch ||| f_X4_only (nI j)) (un &&& (f_X1_explainedBy ga (nI j) ^^^ (-1))) (le &&& (f_X4_only (nI j) ^^^ (-1))) fo := by
          refine ⟨fun k hk => ?_, fun k hk => hal k ((hle2 k).mp ((barely hj14).mp hk).1).1, fun k hk => ?_, ⟨hun.1.and _, fun k hk => ?_⟩, hfo⟩
          · rw [b_or, Bool.or_eq_true, only_bT hj14] at hk
            rcases hk with hk | hk
            · exact hch k hk
            · rw [hk]; exact hal j hTj.2
          · rw [b_or, Bool.or_eq_true, only_bT hj14] at hk
            cases hc : bt (le &&& (f_X4_only (nI j) ^^^ (-1))) k
            · rfl
            · have h1 := (barely hj14).mp hc
              rcases hk with hk | hk
              · have h2 := hdis k hk
                rw [((hle2 k).mp h1.1).1] at h2; cases h2
              · exact absurd hk h1.2.2
          · rw [b_and, Bool.and_eq_true, not_b _ (by omega), Bool.not_eq_true', hun.2 k hk]
            constructor
            · rintro ⟨⟨h1, h2⟩, h3⟩
              refine ⟨h1, fun ⟨o, ho, h4, h5⟩ => ?_⟩
              rw [b_or, Bool.or_eq_true, only_bT hj14] at h4
              rcases h4 with h4 | h4
              · exact h2 ⟨o, ho, h4, h5⟩
              · subst h4
                have : bt (f_X1_explainedBy ga (nI o)) k = true := (explainedBy_b hj14).mpr (h5.elim (fun q => Or.inl q.symm) (fun q => Or.inr ((h.ba hk hj14).mpr q)))
                rw [this] at h3; cases h3
            · rintro ⟨h1, h2⟩
              refine ⟨⟨h1, fun ⟨o, ho, h4, h5⟩ => h2 ⟨o, ho, by rw [b_or, h4]; rfl, h5⟩⟩, ?_⟩
              cases hc : bt (f_X1_explainedBy ga (nI j)) k
              · rfl
              · exfalso
                refine h2 ⟨j, hj14, by rw [b_or, (only_bT hj14).mpr rfl, Bool.or_true], ?_⟩
                exact ((explainedBy_b hj14).mp hc).elim (fun q => Or.inl q.symm) (fun q => Or.inr ((h.ba hk hj14).mp q))
        obtain ⟨r1, r2⟩ := IH _ _ _ _ (by rw [hcn]; omega) hok2
        rw [hcn, ← nI_1] at r1 r2
        obtain ⟨g1, g2, g3⟩ := r2
        have hgb : f_X0_search r gb ga N (nI (cn ch) + 1) (ch ||| f_X4_only (nI j)) (un &&& (f_X1_explainedBy ga (nI j) ^^^ (-1))) (le &&& (f_X4_only (nI j) ^^^ (-1))) fo = be ∨ Btr r (f_X0_search r gb ga N (nI (cn ch) + 1) (ch ||| f_X4_only (nI j)) (un &&& (f_X1_explainedBy ga (nI j) ^^^ (-1))) (le &&& (f_X4_only (nI j) ^^^ (-1))) fo) be := by
          rcases g2 with q | q
          · rw [q]; exact hfb
          · rcases hfb with w | w
            · rw [w] at q; exact Or.inr (by rw [w]; exact q)
            · exact Or.inr (q.trans w)
        have mono : ∀ d, ¬ Btr r d fo → ¬ Btr r d (f_X0_search r gb ga N (nI (cn ch) + 1) (ch ||| f_X4_only (nI j)) (un &&& (f_X1_explainedBy ga (nI j) ^^^ (-1))) (le &&& (f_X4_only (nI j) ^^^ (-1))) fo) := fun d hd => by
          rcases g2 with q | q
          · rw [q]; exact hd
          · exact fun z => hd (z.trans q)
        obtain ⟨a1, b, x, y, a2, a3, a4, a5⟩ := ih (j + 1) n _ (le &&& (f_X4_only (nI j) ^^^ (-1))) (by omega) (by omega) g1 hgb (fun d hd h1 h2 ⟨k, hk, h3, h4⟩ => by
          by_cases w : ∃ k, k < j ∧ bt (f_X1_explainersOf gb (nI m) &&& al) k = true ∧ bt d k = true
          · exact mono d (hcov d hd h1 h2 w)
          · have e : k = j := by
              rcases Nat.lt_or_ge k j with q | q
              · exact absurd ⟨k, q, h3, h4⟩ w
              · omega
            subst e
            refine g3 d hd (fun t ht => ?_) (fun t ht => ?_)
            · rw [b_or, Bool.or_eq_true, only_bT hj14] at ht
              rcases ht with ht | ht
              · exact h1 t ht
              · rw [ht]; exact h4
            · rw [b_or, Bool.or_eq_true, only_bT hj14, barely hj14, hle2 t]
              by_cases et : t = k
              · exact Or.inl (Or.inr et)
              · rcases h2 t ht with q | q
                · exact Or.inl (Or.inl q)
                · have := (hd.1.M hp).lt ht
                  exact Or.inr ⟨⟨q, fun ⟨z1, z2⟩ => w ⟨t, z1, z2, ht⟩⟩, by omega, et⟩) (Or.inr fun k => by
          rw [barely hj14, hle2 k]
          constructor
          · rintro ⟨⟨q1, q2⟩, _, q3⟩
            refine ⟨q1, fun ⟨z1, z2⟩ => ?_⟩
            rcases Nat.lt_or_ge k j with w | w
            · exact q2 ⟨w, z2⟩
            · exact q3 (by omega)
          · rintro ⟨q1, q2⟩
            have hk14 := (hal.M hp).lt q1
            refine ⟨⟨q1, fun ⟨z1, z2⟩ => q2 ⟨by omega, z2⟩⟩, by omega, fun e => ?_⟩
            subst e
            exact q2 ⟨Nat.lt_succ_self _, hT⟩)
        refine ⟨?_, b, x, y, ?_, a3, a4, a5⟩
        · rw [p_X0_search_L55]
          refine ⟨fun h => absurd h (n14 hj14), fun _ => ⟨⟨fun _ => trivial, fun _ => ⟨fun _ => trivial, fun _ => trivial⟩⟩, fun z hz => ?_⟩⟩
          rw [← hy6] at hz
          subst hz
          rw [hmn]
          refine ⟨fun h => absurd h c1, fun _ => ⟨fun h => absurd h c2, fun _ => ⟨⟨in14 hj14, trivial⟩, r1, fun z hz => ?_⟩⟩⟩
          rw [← hz, nI_1 j]
          exact a1
        · rw [f_X0_search_L55, if_neg (n14 hj14), ← hy6]
          dsimp only
          rw [hmn, if_neg c1, if_neg c2, nI_1 j]
          exact a2
theorem search_spec {gn gu gb ga : AA} {r p : Int32} (h : GI gn gu gb ga) (hr : M14 r) (hp : M14 p) : ∀ (n : Nat) (ch un al be : Int32), 15 ≤ n + cn ch → Ok gb r p ch un al be → p_X0_search r gb ga n (nI (cn ch)) ch un al be ∧ SS gb r p ch al be (f_X0_search r gb ga n (nI (cn ch)) ch un al be) := by
  intro n
  induction n with
  | zero =>
    intro ch un al be hn _
    have := cn_le ch
    omega
  | succ n ih =>
    intro ch un al be hn hok
    obtain ⟨hch, hal, hdis, hun, hbe⟩ := id hok
    have hnp := (nap_spec un 0).1
    rcases nap0 un with ⟨m, hm, hmb, _, hmn⟩ | ⟨hz, hmn⟩
    · have hne : ¬ f_X4_nodeAtPlace un 0 = -1 := by rw [hmn]; exact nI_neg1 hm
      obtain ⟨a1, b, x, y, a2, a3, a4, a5⟩ := search_L h hp ih hn hok hm hmb hmn 14 0 15 be al rfl (by decide) hbe (Or.inl rfl) (fun d _ _ _ ⟨k, hk, _⟩ => absurd hk (Nat.not_lt_zero _)) (Or.inr fun k => ⟨fun q => ⟨q, fun z => absurd z.1 (Nat.not_lt_zero _)⟩, fun q => q.1⟩)
      rw [nI_0] at a1 a2
      constructor
      · rw [p_X0_search]
        refine ⟨hnp, fun q => absurd q hne, fun _ => ⟨?_, a1, fun _ _ _ _ => trivial⟩⟩
        rw [hmn]
        exact ⟨in14 hm, trivial⟩
      · rw [f_X0_search, if_neg hne, a2]
        refine ⟨a3, a4, fun d hd h1 h2 => a5 d hd h1 h2 ?_⟩
        obtain ⟨h3, h4⟩ := (hun.2 m hm).mp hmb
        obtain ⟨o, ho, h5, h6⟩ := hd.2 m hm h3
        have hoc : ¬ bt ch o = true := fun q => h4 ⟨o, ho, q, h6⟩
        refine ⟨o, ho, ?_, h5⟩
        rw [b_and, Bool.and_eq_true]
        exact ⟨(explainersOf_b hm).mpr h6, (h2 o h5).resolve_left hoc⟩
    · have hchD : Dg gb r p ch := ⟨hch, fun k hk hb => Classical.byContradiction fun w => by
        have := hz k hk
        rw [(hun.2 k hk).mpr ⟨hb, w⟩] at this
        cases this⟩
      obtain ⟨q1, q2⟩ := better4 (r := r) (hch.M hp) (hbe.1.M hp)
      constructor
      · rw [p_X0_search]
        exact ⟨hnp, fun _ => ⟨q1, ⟨fun _ => trivial, fun _ => trivial⟩, fun _ _ => trivial⟩, fun q => absurd hmn q⟩
      · rw [f_X0_search, if_pos hmn]
        dsimp only
        have hd0 : ∀ d, Dg gb r p d → Sub ch d → d = ch ∨ cn ch < cn d := fun d hd h1 => by
          by_cases w : ∃ j, j < 14 ∧ bt ch j = false ∧ bt d j = true
          · obtain ⟨j, hj, w1, w2⟩ := w
            exact Or.inr (cn_sub_lt h1 hj w1 w2)
          · refine Or.inl (M14.ext (hd.1.M hp) (hch.M hp) fun i hi => ?_)
            cases hc : bt ch i
            · cases hb : bt d i
              · rfl
              · exact absurd ⟨i, hi, hc, hb⟩ w
            · exact h1 i hc
        by_cases c : f_X0_isBetter r ch be = 0
        · rw [if_pos c]
          refine ⟨hbe, Or.inl rfl, fun d hd h1 _ hB => ?_⟩
          rcases hd0 d hd h1 with e | e
          · rw [e] at hB; exact (q2.mp c) hB
          · exact (q2.mp c) ((Btr.of_cn e).trans hB)
        · rw [if_neg c]
          have hB : Btr r ch be := Classical.byContradiction fun w => c (q2.mpr w)
          refine ⟨hchD, Or.inr hB, fun d hd h1 _ => ?_⟩
          rcases hd0 d hd h1 with e | e
          · rw [e]; exact Btr.irr
          · exact not_Btr_cn e
theorem search_best {gn gu gb ga : AA} {r : Int32} (h : GI gn gu gb ga) (hr : M14 r) : p_X0_bestBySearch r (f_X0_plausibleOf gu r) gb ga ∧ Bst gb r (f_X0_plausibleOf gu r) (f_X0_bestBySearch r (f_X0_plausibleOf gu r) gb ga) := by
  obtain ⟨-, hpM, -⟩ := plOf h.2.1 hr
  have h0 : cn 0 = 0 := by decide
  have hok : Ok gb r (f_X0_plausibleOf gu r) 0 r (f_X0_plausibleOf gu r) r := ⟨fun k hk => (by rw [b_0] at hk; cases hk), fun k hk => hk, fun k hk => (by rw [b_0] at hk; cases hk), ⟨hr, fun k _ => ⟨fun q => ⟨q, fun ⟨o, _, h1, _⟩ => (by rw [b_0] at h1; cases h1)⟩, fun q => q.1⟩⟩, plSub h.2.1 hr, EX.self gb r⟩
  obtain ⟨a1, a2⟩ := search_spec h hr hpM 16 0 r (f_X0_plausibleOf gu r) r (by omega) hok
  rw [h0, nI_0] at a1 a2
  obtain ⟨a3, _, a4⟩ := a2
  exact ⟨⟨a1, trivial⟩, a3, fun d hd => a4 d hd (fun k hk => by rw [b_0] at hk; cases hk) (fun k hk => Or.inr (hd.1 k hk))⟩
end
section
/-! ===== the greedy diagnosis ===== -/
/-- how many of the open nodes a plausible node explains -/
def Gk (p : Int32) (ga : AA) (u : Int32) (k : Nat) : Nat := if bt p k then cn (f_X1_explainedBy ga (nI k) &&& u) else 0
theorem Gk_le (p : Int32) (ga : AA) (u : Int32) (k : Nat) : Gk p ga u k ≤ 14 := by
  unfold Gk
  split
  · exact cn_le _
  · omega
theorem gx_val {gn gu gb ga : AA} (h : GI gn gu gb ga) {p u : Int32} {j : Nat} (hj : j < 14) : (if f_X4_has p (nI j) = 0 then (0 : Int32) else f_J6_bitCount_0f7a4 (f_X1_explainedBy ga (nI j) &&& u)) = nI (Gk p ga u j) := by
  have hh := has4_0 p (n := j) (by omega)
  unfold Gk
  cases hb : bt p j
  · rw [if_pos (hh.mpr hb)]; rfl
  · rw [if_neg (fun c => by rw [hh.mp c] at hb; cases hb), count6 ((explainedBy_M h hj).and u)]; rfl
theorem gI {a b : Nat} (ha : a ≤ 14) (hb : b ≤ 14) : (nI a < nI b ↔ a < b) ∧ (nI a = nI b ↔ a = b) ∧ (nI a ≤ 0 ↔ a = 0) := ⟨nI_ltI (by omega) (by omega), nI_eq (by omega) (by omega), by rw [show (0 : Int32) = nI 0 from rfl, nI_leI (by omega) (by decide)]; omega⟩
/-- of two nodes that explain as many the first is taken before the second -/
def Bs (r : Int32) (x k : Nat) : Prop := (bt r x = true ∧ bt r k = false) ∨ (bt r x = bt r k ∧ x ≤ k)
/-- where the loop stands -/
def GS (p : Int32) (ga : AA) (r u : Int32) (j a x : Nat) : Prop := x < 14 ∧ a ≤ 14 ∧ (a ≠ 0 → x < j ∧ Gk p ga u x = a ∧ ∀ k, k < j → Gk p ga u k = a → Bs r x k) ∧ ∀ k, k < j → Gk p ga u k ≤ a
theorem greedy_L {gn gu gb ga : AA} {r u p : Int32} (h : GI gn gu gb ga) : ∀ (c j n : Nat) (a x : Nat), j + c = 14 → c < n → GS p ga r u j a x →
    p_X0_greedyNext_L7 r p ga u n (nI x) (nI a) (nI j) ∧ ∃ a' x', f_X0_greedyNext_L7 r p ga u n (nI x) (nI a) (nI j) = (nI x', nI a', nI 14) ∧ GS p ga r u 14 a' x' := by
  intro c
  induction c with
  | zero =>
    intro j n a x hj hn hG
    obtain ⟨n, rfl⟩ : ∃ k, n = k + 1 := ⟨n - 1, by omega⟩
    have e : j = 14 := by omega
    subst e
    refine ⟨?_, a, x, ?_, hG⟩
    · rw [p_X0_greedyNext_L7]; exact ⟨fun _ => trivial, fun h => absurd y14 h⟩
    · rw [f_X0_greedyNext_L7, if_pos y14]
  | succ c ih =>
    intro j n a x hj hn hG
    obtain ⟨n, rfl⟩ : ∃ k, n = k + 1 := ⟨n - 1, by omega⟩
    have hj14 : j < 14 := by omega
    obtain ⟨hx, ha, h1, hk⟩ := id hG
    have vx := gx_val h (p := p) (u := u) hj14
    obtain ⟨b, hb⟩ : ∃ b, b = Gk p ga u j := ⟨_, rfl⟩
    have hb14 : b ≤ 14 := by rw [hb]; exact Gk_le _ _ _ _
    rw [← hb] at vx
    obtain ⟨i1, i2, i3⟩ := gI ha hb14
    obtain ⟨-, i5, i6⟩ := gI hb14 ha
    have take : a < b ∨ (b = a ∧ b ≠ 0 ∧ bt r j = true ∧ bt r x = false) → GS p ga r u (j + 1) b j := fun q => by
      refine ⟨hj14, hb14, fun hne => ⟨Nat.lt_succ_self _, hb.symm, fun k hk2 hk3 => ?_⟩, fun k hk2 => ?_⟩
      · rcases Nat.lt_or_ge k j with w | w
        · have hka := hk k w
          rcases q with q | ⟨q1, q2, q3, q4⟩
          · omega
          · obtain ⟨-, -, h3⟩ := h1 (by omega)
            rcases h3 k w (by omega) with ⟨z, -⟩ | ⟨z, -⟩
            · rw [q4] at z; cases z
            · exact Or.inl ⟨q3, by rw [← z]; exact q4⟩
        · rw [show k = j by omega]; exact Or.inr ⟨rfl, Nat.le_refl _⟩
      · rcases Nat.lt_or_ge k j with w | w
        · have := hk k w; omega
        · rw [show k = j by omega, ← hb]; exact Nat.le_refl _
    have leave : ¬ (a < b ∨ (b = a ∧ b ≠ 0 ∧ bt r j = true ∧ bt r x = false)) → GS p ga r u (j + 1) a x := fun q => by
      have hba : b ≤ a := by omega
      refine ⟨hx, ha, fun hne => ?_, fun k hk2 => ?_⟩
      · obtain ⟨g1, g2, g3⟩ := h1 hne
        refine ⟨by omega, g2, fun k hk2 hk3 => ?_⟩
        rcases Nat.lt_or_ge k j with w | w
        · exact g3 k w hk3
        · have ek : k = j := by omega
          subst ek
          have eb : b = a := by rw [hb]; exact hk3
          cases hbx : bt r x
          · cases hbj : bt r k
            · exact Or.inr ⟨by rw [hbx, hbj], by omega⟩
            · exact absurd (Or.inr ⟨eb, by omega, hbj, hbx⟩) q
          · cases hbj : bt r k
            · exact Or.inl ⟨hbx, hbj⟩
            · exact Or.inr ⟨by rw [hbx, hbj], by omega⟩
      · rcases Nat.lt_or_ge k j with w | w
        · exact hk k w
        · rw [show k = j by omega, ← hb]; exact hba
    have hr4 := has4_0 r (n := j) (by omega)
    have hx4 := has4_0 r (n := x) (by omega)
    obtain ⟨y, hy⟩ : ∃ y : Int32, y = (if nI b = nI a then (if f_X4_has r (nI j) = 0 then (0 : Int32) else (if f_X4_has r (nI x) = 0 then (1 : Int32) else (0 : Int32))) else (0 : Int32)) := ⟨_, rfl⟩
    have hy0 : y = 0 ↔ ¬ (b = a ∧ bt r j = true ∧ bt r x = false) := by
      rw [hy]
      by_cases e : b = a
      · rw [if_pos (i5.mpr e)]
        cases hbj : bt r j
        · rw [if_pos (hr4.mpr hbj)]; simp
        · rw [if_neg (fun c => by rw [hr4.mp c] at hbj; cases hbj)]
          cases hbx : bt r x
          · rw [if_pos (hx4.mpr hbx)]; simp [e]
          · rw [if_neg (fun c => by rw [hx4.mp c] at hbx; cases hbx)]; simp
      · rw [if_neg (fun c => e (i5.mp c))]; simp [e]
    have pB : p_X1_explainedBy (nI j) := ⟨in14 hj14, trivial⟩
    by_cases w : a < b ∨ (b = a ∧ b ≠ 0 ∧ bt r j = true ∧ bt r x = false)
    · obtain ⟨p1, a', x', e1, e3⟩ := ih (j + 1) n b j (by omega) (by omega) (take w)
      refine ⟨?_, a', x', ?_, e3⟩
      · rw [p_X0_greedyNext_L7]
        refine ⟨fun h => absurd h (n14 hj14), fun _ => ⟨⟨fun _ => trivial, fun _ => ⟨pB, trivial⟩⟩, fun v hv => ?_⟩⟩
        rw [vx] at hv
        subst hv
        refine ⟨⟨fun _ => ⟨fun _ => trivial, fun _ => ⟨fun _ => trivial, fun _ => trivial⟩⟩, fun _ => trivial⟩, fun v hv => ?_⟩
        rw [← hy] at hv
        subst hv
        rw [nI_1]
        rcases w with w | ⟨w1, w2, w3, w4⟩
        · exact ⟨fun _ => p1, fun c => absurd (i1.mpr w) c⟩
        · exact ⟨fun _ => p1, fun _ => ⟨fun c => absurd (i6.mp c) w2, fun _ => ⟨fun c => absurd ⟨w1, w3, w4⟩ (hy0.mp c), fun _ => p1⟩⟩⟩
      · rw [f_X0_greedyNext_L7, if_neg (n14 hj14)]
        dsimp only
        rw [vx, ← hy, nI_1]
        rcases w with w | ⟨w1, w2, w3, w4⟩
        · rw [if_pos (i1.mpr w)]; exact e1
        · rw [if_neg (fun c => by have := i1.mp c; omega), if_neg (fun c => w2 (i6.mp c)), if_neg (fun c => (hy0.mp c) ⟨w1, w3, w4⟩)]; exact e1
    · obtain ⟨p1, a', x', e1, e3⟩ := ih (j + 1) n a x (by omega) (by omega) (leave w)
      have w1 : ¬ nI a < nI b := fun c => w (Or.inl (i1.mp c))
      have w2 : ¬ nI b ≤ 0 → y = 0 := fun c => hy0.mpr fun ⟨q1, q2, q3⟩ => w (Or.inr ⟨q1, fun q => c (i6.mpr q), q2, q3⟩)
      refine ⟨?_, a', x', ?_, e3⟩
      · rw [p_X0_greedyNext_L7]
        refine ⟨fun h => absurd h (n14 hj14), fun _ => ⟨⟨fun _ => trivial, fun _ => ⟨pB, trivial⟩⟩, fun v hv => ?_⟩⟩
        rw [vx] at hv
        subst hv
        refine ⟨⟨fun _ => ⟨fun _ => trivial, fun _ => ⟨fun _ => trivial, fun _ => trivial⟩⟩, fun _ => trivial⟩, fun v hv => ?_⟩
        rw [← hy] at hv
        subst hv
        rw [nI_1]
        exact ⟨fun c => absurd c w1, fun _ => ⟨fun _ => p1, fun c => ⟨fun _ => p1, fun c2 => absurd (w2 c) c2⟩⟩⟩
      · rw [f_X0_greedyNext_L7, if_neg (n14 hj14)]
        dsimp only
        rw [vx, ← hy, nI_1, if_neg w1]
        by_cases c : nI b ≤ 0
        · rw [if_pos c]; exact e1
        · rw [if_neg c, if_pos (w2 c)]; exact e1
/-- the next node of the greedy diagnosis -/
theorem greedy_next {gn gu gb ga : AA} {r u : Int32} (h : GI gn gu gb ga) (hr : M14 r) (hur : Sub u r) (hu0 : u ≠ 0) : p_X0_greedyNext r (f_X0_plausibleOf gu r) ga u ∧
    ∃ g, g < 14 ∧ f_X0_greedyNext r (f_X0_plausibleOf gu r) ga u = nI g ∧ bt (f_X0_plausibleOf gu r) g = true ∧ (∃ k, k < 14 ∧ bt u k = true ∧ bt (f_X1_explainedBy ga (nI g)) k = true) ∧ ∀ k, k < 14 → Gk (f_X0_plausibleOf gu r) ga u k ≤ Gk (f_X0_plausibleOf gu r) ga u g ∧ (Gk (f_X0_plausibleOf gu r) ga u k = Gk (f_X0_plausibleOf gu r) ga u g → Bs r g k) := by
  obtain ⟨p1, a, x, e1, ⟨hx, ha, h1, e4⟩⟩ := greedy_L (u := u) (p := f_X0_plausibleOf gu r) (r := r) h 14 0 15 0 0 rfl (by decide) ⟨by decide, by decide, fun q => absurd rfl q, fun k hk => absurd hk (Nat.not_lt_zero _)⟩
  rw [nI_0] at p1 e1
  have q : a ≠ 0 := fun q => by
    obtain ⟨k, hk, hb⟩ := (nz_iff (hur.M hr)).mp hu0
    have h5 := e4 k hk
    have hpk : bt (f_X0_plausibleOf gu r) k = true := plSub h.2.1 hr k (hur k hb)
    unfold Gk at h5
    rw [if_pos hpk] at h5
    have h7 : cb (f_X1_explainedBy ga (nI k) &&& u) 14 ≠ 0 := fun c => by
      have := cb_zero.mp c k hk
      rw [b_and, hb, (explainedBy_b hk).mpr (Or.inl rfl)] at this
      cases this
    exact h7 (by unfold cn at h5; omega)
  obtain ⟨-, g2, g3⟩ := h1 q
  refine ⟨⟨p1, fun _ _ _ _ => trivial⟩, x, hx, ?_, ?_, ?_, fun k hk => ⟨by rw [g2]; exact e4 k hk, fun z => g3 k hk (by rw [← g2]; exact z)⟩⟩
  · unfold f_X0_greedyNext; rw [e1]
  · unfold Gk at g2
    by_cases c : bt (f_X0_plausibleOf gu r) x = true
    · exact c
    · rw [if_neg c] at g2; exact absurd g2.symm q
  · have h5 := g2
    unfold Gk at h5
    split at h5
    · have h7 : cb (f_X1_explainedBy ga (nI x) &&& u) 14 ≠ 0 := fun c => q (by rw [← h5]; exact c)
      have h8 : ∃ k, k < 14 ∧ bt (f_X1_explainedBy ga (nI x) &&& u) k = true := Classical.byContradiction fun w => h7 (cb_zero.mpr fun i hi => by
        cases hb : bt (f_X1_explainedBy ga (nI x) &&& u) i
        · rfl
        · exact absurd ⟨i, hi, hb⟩ w)
      obtain ⟨k, hk, hb⟩ := h8
      rw [b_and, Bool.and_eq_true] at hb
      exact ⟨k, hk, hb.2, hb.1⟩
    · exact absurd h5.symm q
theorem u_less {u y : Int32} (hu : M14 u) {k : Nat} (hk : k < 14) (h1 : bt u k = true) (h2 : bt y k = true) : cn (u &&& (y ^^^ (-1))) < cn u := by
  refine cn_sub_lt (j := k) (fun i hi => ?_) hk ?_ h1
  · rw [b_and, Bool.and_eq_true] at hi; exact hi.1
  · rw [b_and, not_b _ (by omega), h2]; exact Bool.and_false _
theorem u_sub {u y r : Int32} (h : Sub u r) : Sub (u &&& y) r := fun i hi => by
  rw [b_and, Bool.and_eq_true] at hi
  exact h i hi.1
end
section
/-- what is open after t nodes of the greedy diagnosis -/
def Gu (gu ga : AA) (r : Int32) : Nat → Int32
  | 0 => r
  | t + 1 => if Gu gu ga r t = 0 then 0 else Gu gu ga r t &&& (f_X1_explainedBy ga (f_X0_greedyNext r (f_X0_plausibleOf gu r) ga (Gu gu ga r t)) ^^^ (-1))
theorem Gu_sub (gu ga : AA) (r : Int32) : ∀ t, Sub (Gu gu ga r t) r
  | 0 => fun _ h => h
  | t + 1 => by
    rw [Gu]
    split
    · exact fun k hk => by rw [b_0] at hk; cases hk
    · exact u_sub (Gu_sub gu ga r t)
theorem Gu_step {gn gu gb ga : AA} {r : Int32} (h : GI gn gu gb ga) (hr : M14 r) {t : Nat} (c : Gu gu ga r t ≠ 0) : p_X0_greedyNext r (f_X0_plausibleOf gu r) ga (Gu gu ga r t) ∧ ∃ g, g < 14 ∧ f_X0_greedyNext r (f_X0_plausibleOf gu r) ga (Gu gu ga r t) = nI g ∧ Gu gu ga r (t + 1) = Gu gu ga r t &&& (f_X1_explainedBy ga (nI g) ^^^ (-1)) ∧ bt (f_X0_plausibleOf gu r) g = true ∧ (∃ k, k < 14 ∧ bt (Gu gu ga r t) k = true ∧ bt (f_X1_explainedBy ga (nI g)) k = true) ∧ ∀ k, k < 14 → Gk (f_X0_plausibleOf gu r) ga (Gu gu ga r t) k ≤ Gk (f_X0_plausibleOf gu r) ga (Gu gu ga r t) g ∧ (Gk (f_X0_plausibleOf gu r) ga (Gu gu ga r t) k = Gk (f_X0_plausibleOf gu r) ga (Gu gu ga r t) g → Bs r g k) := by
  obtain ⟨p1, g, hg, e1, e2, e3, e4⟩ := greedy_next h hr (Gu_sub gu ga r t) c
  exact ⟨p1, g, hg, e1, by rw [Gu, if_neg c, e1], e2, e3, e4⟩
theorem Gu_cn {gn gu gb ga : AA} {r : Int32} (h : GI gn gu gb ga) (hr : M14 r) : ∀ t, Gu gu ga r t ≠ 0 → cn (Gu gu ga r t) + t ≤ 14
  | 0, _ => by show cn r + 0 ≤ 14; have := cn_le r; omega
  | t + 1, hne => by
    by_cases c : Gu gu ga r t = 0
    · rw [Gu, if_pos c] at hne; exact absurd rfl hne
    · have ih := Gu_cn h hr t c
      obtain ⟨-, g, hg, -, e1, -, ⟨k, hk, hk1, hk2⟩, -⟩ := Gu_step h hr c
      rw [e1]
      have := u_less ((Gu_sub gu ga r t).M hr) hk hk1 hk2
      omega
theorem Gu_end {gn gu gb ga : AA} {r : Int32} (h : GI gn gu gb ga) (hr : M14 r) {t : Nat} (ht : 14 ≤ t) : Gu gu ga r t = 0 := Classical.byContradiction fun c => by
  have h1 := Gu_cn h hr t c
  obtain ⟨k, hk, hb⟩ := (nz_iff ((Gu_sub gu ga r t).M hr)).mp c
  have h2 : cn (Gu gu ga r t) ≠ 0 := fun e => by rw [cb_zero.mp e k hk] at hb; cases hb
  omega
theorem Gu_stay {gu ga : AA} {r : Int32} {t : Nat} (h : Gu gu ga r t = 0) : ∀ d, Gu gu ga r (t + d) = 0
  | 0 => h
  | d + 1 => by show Gu gu ga r (t + d + 1) = 0; rw [Gu, if_pos (Gu_stay h d)]
def Gn (gu ga : AA) (r : Int32) (t : Nat) : Int32 := if Gu gu ga r t = 0 then -1 else f_X0_greedyNext r (f_X0_plausibleOf gu r) ga (Gu gu ga r t)
/-- how many nodes the greedy diagnosis has: the first t with nothing open -/
theorem gcount_X {gn gu gb ga : AA} {r : Int32} (h : GI gn gu gb ga) (hr : M14 r) : ∀ (c t n : Nat), t + c = 14 → c < n → (∀ k, k < t → Gu gu ga r k ≠ 0) →
    p_X0_greedyCount_L7 r (f_X0_plausibleOf gu r) ga n (Gu gu ga r t) (nI t) ∧ ∃ k, k ≤ 14 ∧ Gu gu ga r k = 0 ∧ (∀ s, s < k → Gu gu ga r s ≠ 0) ∧ ∃ x, f_X0_greedyCount_L7 r (f_X0_plausibleOf gu r) ga n (Gu gu ga r t) (nI t) = (x, nI k) := by
  intro c
  induction c with
  | zero =>
    intro t n ht hn hq
    obtain ⟨n, rfl⟩ : ∃ k, n = k + 1 := ⟨n - 1, by omega⟩
    have e := Gu_end h hr (t := t) (by omega)
    refine ⟨?_, t, by omega, e, hq, ⟨Gu gu ga r t, ?_⟩⟩
    · rw [p_X0_greedyCount_L7]; exact ⟨fun _ => trivial, fun q => absurd e q⟩
    · rw [f_X0_greedyCount_L7, if_pos e]
  | succ c ih =>
    intro t n ht hn hq
    obtain ⟨n, rfl⟩ : ∃ k, n = k + 1 := ⟨n - 1, by omega⟩
    have ht14 : t < 14 := by omega
    by_cases e : Gu gu ga r t = 0
    · refine ⟨?_, t, by omega, e, hq, ⟨Gu gu ga r t, ?_⟩⟩
      · rw [p_X0_greedyCount_L7]; exact ⟨fun _ => trivial, fun q => absurd e q⟩
      · rw [f_X0_greedyCount_L7, if_pos e]
    · obtain ⟨q1, g, hg, e1, hG, -⟩ := Gu_step h hr e
      obtain ⟨p1, k, hk, k1, k2, ⟨x1, a1⟩⟩ := ih (t + 1) n (by omega) (by omega) (fun k hk => by
        rcases Nat.lt_or_ge k t with z | z
        · exact hq k z
        · rw [show k = t by omega]; exact e)
      refine ⟨?_, k, hk, k1, k2, ⟨x1, ?_⟩⟩
      · rw [p_X0_greedyCount_L7]
        refine ⟨fun q => absurd q e, fun _ => ⟨fun q => absurd q (n14 ht14), fun _ => ⟨q1, ?_, fun y hy => ?_⟩⟩⟩
        · rw [e1]; exact ⟨in14 hg, trivial⟩
        · rw [e1, ← hG] at hy
          rw [← hy, nI_1]
          exact p1
      · rw [f_X0_greedyCount_L7, if_neg e, if_neg (n14 ht14), e1, ← hG, nI_1]
        exact a1
theorem gcount {gn gu gb ga : AA} {r : Int32} (h : GI gn gu gb ga) (hr : M14 r) : p_X0_greedyCount r (f_X0_plausibleOf gu r) ga ∧ ∃ k, k ≤ 14 ∧ f_X0_greedyCount r (f_X0_plausibleOf gu r) ga = nI k ∧ Gu gu ga r k = 0 ∧ ∀ s, s < k → Gu gu ga r s ≠ 0 := by
  obtain ⟨p1, k, hk, k1, k2, ⟨x1, a1⟩⟩ := gcount_X h hr 14 0 15 rfl (by decide) (fun k hk => absurd hk (Nat.not_lt_zero _))
  rw [nI_0] at p1 a1
  have e : Gu gu ga r 0 = r := rfl
  rw [e] at p1 a1
  refine ⟨⟨p1, fun _ _ _ => trivial⟩, k, hk, ?_, k1, k2⟩
  unfold f_X0_greedyCount
  rw [a1]
theorem gat_X {gn gu gb ga : AA} {r a : Int32} (h : GI gn gu gb ga) (hr : M14 r) : ∀ (c t n : Nat), t + c = 14 → c < n → (∀ k, k < t → a ≠ nI k) →
    p_X0_greedyAt_L7 r (f_X0_plausibleOf gu r) ga a n (Gu gu ga r t) (nI t) ∧ ((∃ k, t ≤ k ∧ k < 14 ∧ a = nI k ∧ f_X0_greedyAt_L7 r (f_X0_plausibleOf gu r) ga a n (Gu gu ga r t) (nI t) = Gn gu ga r k) ∨ ((∀ k, k < 14 → a ≠ nI k) ∧ f_X0_greedyAt_L7 r (f_X0_plausibleOf gu r) ga a n (Gu gu ga r t) (nI t) = -1)) := by
  intro c
  induction c with
  | zero =>
    intro t n ht hn hq
    obtain ⟨n, rfl⟩ : ∃ k, n = k + 1 := ⟨n - 1, by omega⟩
    have e : t = 14 := by omega
    subst e
    refine ⟨?_, Or.inr ⟨hq, ?_⟩⟩
    · rw [p_X0_greedyAt_L7]; exact ⟨fun _ => trivial, fun q => absurd y14 q⟩
    · rw [f_X0_greedyAt_L7, if_pos y14]
  | succ c ih =>
    intro t n ht hn hq
    obtain ⟨n, rfl⟩ : ∃ k, n = k + 1 := ⟨n - 1, by omega⟩
    have ht14 : t < 14 := by omega
    by_cases e : Gu gu ga r t = 0
    · constructor
      · rw [p_X0_greedyAt_L7]; exact ⟨fun _ => trivial, fun _ => ⟨fun _ => trivial, fun q => absurd e q⟩⟩
      · have hv : f_X0_greedyAt_L7 r (f_X0_plausibleOf gu r) ga a (n + 1) (Gu gu ga r t) (nI t) = -1 := by rw [f_X0_greedyAt_L7, if_neg (n14 ht14), if_pos e]
        rw [hv]
        by_cases w : ∃ k, k < 14 ∧ a = nI k
        · obtain ⟨k, hk, hk2⟩ := w
          have htk : t ≤ k := by
            rcases Nat.lt_or_ge k t with z | z
            · exact absurd hk2 (hq k z)
            · exact z
          refine Or.inl ⟨k, htk, hk, hk2, ?_⟩
          have := Gu_stay e (k - t)
          rw [show t + (k - t) = k by omega] at this
          unfold Gn
          rw [if_pos this]
        · exact Or.inr ⟨fun k hk z => w ⟨k, hk, z⟩, rfl⟩
    · obtain ⟨q1, g, hg, e1, hG, -⟩ := Gu_step h hr e
      by_cases w : nI t = a
      · constructor
        · rw [p_X0_greedyAt_L7]; exact ⟨fun q => absurd q (n14 ht14), fun _ => ⟨fun q => absurd q e, fun _ => ⟨q1, fun _ => trivial, fun q => absurd w q⟩⟩⟩
        · refine Or.inl ⟨t, Nat.le_refl _, ht14, w.symm, ?_⟩
          rw [f_X0_greedyAt_L7, if_neg (n14 ht14), if_neg e, if_pos w]
          unfold Gn
          rw [if_neg e]
      · obtain ⟨p1, p2⟩ := ih (t + 1) n (by omega) (by omega) (fun k hk => by
          rcases Nat.lt_or_ge k t with z | z
          · exact hq k z
          · rw [show k = t by omega]; exact fun q => w q.symm)
        have hv : f_X0_greedyAt_L7 r (f_X0_plausibleOf gu r) ga a (n + 1) (Gu gu ga r t) (nI t) = f_X0_greedyAt_L7 r (f_X0_plausibleOf gu r) ga a n (Gu gu ga r (t + 1)) (nI (t + 1)) := by
          rw [f_X0_greedyAt_L7, if_neg (n14 ht14), if_neg e, if_neg w, e1, ← hG, nI_1]
        constructor
        · rw [p_X0_greedyAt_L7]
          refine ⟨fun q => absurd q (n14 ht14), fun _ => ⟨fun q => absurd q e, fun _ => ⟨q1, fun q => absurd q w, fun _ => ⟨?_, fun y hy => ?_⟩⟩⟩⟩
          · rw [e1]; exact ⟨in14 hg, trivial⟩
          · rw [e1, ← hG] at hy
            rw [← hy, nI_1]
            exact p1
        · rw [hv]
          rcases p2 with ⟨k, z1, z2, z3, z4⟩ | z
          · exact Or.inl ⟨k, by omega, z2, z3, z4⟩
          · exact Or.inr z
end
section
/-! ===== what the calls on causes answer ===== -/
theorem i_sub1 (p c : Int32) : p - c - 1 = p - (c + 1) := by
  refine Int32.toBitVec_inj.mp ?_
  rw [Int32.toBitVec_sub, Int32.toBitVec_sub, Int32.toBitVec_sub, Int32.toBitVec_add]
  have key : ∀ P C D : BitVec 32, P - C - D = P - (C + D) := fun P C D => by bv_omega
  exact key _ _ _
theorem i_sub0 (p : Int32) : p - 0 = p := by
  refine Int32.toBitVec_inj.mp ?_
  rw [Int32.toBitVec_sub]
  exact BitVec.sub_zero _
theorem i_subz {p c : Int32} : p - c = 0 ↔ p = c := by
  constructor
  · intro h
    have h1 := congrArg Int32.toBitVec h
    rw [Int32.toBitVec_sub] at h1
    have key : ∀ P C : BitVec 32, P - C = 0#32 → P = C := fun P C q => by bv_omega
    exact Int32.toBitVec_inj.mp (key _ _ h1)
  · intro h
    subst h
    refine Int32.toBitVec_inj.mp ?_
    rw [Int32.toBitVec_sub]
    exact BitVec.sub_self _
def AtF (x p : Int32) (j : Nat) (f : Int32) : Prop := (∃ k, k < j ∧ bt x k = true ∧ p = nI (cb x k) ∧ f = nI k) ∨ ((∀ k, k < j → bt x k = true → p ≠ nI (cb x k)) ∧ f = -1)
/-- a place that a set has: told by the number, and by what is found there -/
theorem nap_none (x p : Int32) : f_X4_nodeAtPlace x p = -1 ↔ (p < 0 ∨ nI (cn x) ≤ p) := by
  have hcn := cn_le x
  rcases (nap_spec x p).2 with ⟨k, b1, b2, b3, b4⟩ | ⟨b1, b2⟩
  · rw [b4]
    have h1 := cb_strict b2 (Nat.lt_succ_self k)
    have h2 := cb_mono x (a := k + 1) (b := 14) (by omega)
    have h3 : cb x k < cn x := Nat.lt_of_lt_of_le h1 h2
    constructor
    · intro q; exact absurd q (nI_neg1 b1)
    · rintro (q | q)
      · rw [b3] at q; exact absurd q (nI_pos (by omega))
      · rw [b3] at q; exact absurd q (nI_ge h3 (by omega))
  · rw [b2]
    refine ⟨fun _ => ?_, fun _ => rfl⟩
    rcases pk_ix p (n := cn x) (by omega) with q | q | ⟨j, hj, q⟩
    · exact Or.inl q
    · exact Or.inr q
    · obtain ⟨k, c1, c2, c3⟩ := cb_kth (x := x) (c := j) (n := 14) hj
      exact absurd (by rw [q, c3]) (b1 k c1 c2)
/-- the class's answer and the reference's: both refuse, or both answer the same -/
def Ag1 (o : String ⊕ Int32) (m : Int32 × Int32) : Prop := (∃ E, o = .inl E ∧ m.2 = 1) ∨ ∃ v, o = .inr v ∧ m = (v, 0)
theorem diag_eq (r : Int32) (gu : AA) : f_X4_diagnoser r gu = (r, f_X0_plausibleOf gu r) := rfl
theorem diag_p {gu : AA} {r : Int32} (hu : RM gu) (hr : M14 r) : p_X4_diagnoser r gu := ⟨⟨(plOf hu hr).1, trivial⟩, fun _ _ _ => trivial⟩
theorem there (b p : Int32) : p_X4_nodeThere b p ∧ f_X4_nodeThere b p = if f_X4_nodeAtPlace b p = -1 then .inl eIO else .inr (f_X4_nodeAtPlace b p) := ⟨⟨(nap_spec b p).1, fun _ => trivial, fun _ => trivial⟩, rfl⟩
end
section
theorem both_r {A B j : Int32} (h : (if A = 0 then (0 : Int32) else (if B = 0 then (0 : Int32) else (1 : Int32))) = j) (hj : ¬ j = 0) : ¬ A = 0 ∧ ¬ B = 0 := by
  constructor
  · intro q; rw [if_pos q] at h; exact hj h.symm
  · intro q
    by_cases r : A = 0
    · rw [if_pos r] at h; exact hj h.symm
    · rw [if_neg r, if_pos q] at h; exact hj h.symm
theorem eIA_ne : ¬ eIA = eIO := by unfold eIA eIO; decide
theorem eIS_ne : ¬ eIS = eIO := by unfold eIS eIO; decide
theorem bel {gb : AA} {j : Nat} (hj : j < 14) : f_X1_below gb (nI j) = gb j := by unfold f_X1_below; rw [cl (by omega)]
theorem abv {gb : AA} {j : Nat} (hj : j < 14) : f_X1_above gb (nI j) = gb j := by unfold f_X1_above; rw [cl (by omega)]
theorem ndd {gb : AA} {j : Nat} (hj : j < 14) : f_X1_needed gb (nI j) = gb j := by unfold f_X1_needed; rw [cl (by omega)]
theorem has_gb {gn gu gb ga : AA} (h : GI gn gu gb ga) {i j : Nat} (hi : i < 14) (hj : j < 14) : f_X4_has (gb j) (nI i) = 0 ↔ ¬ Rc (NR gn) j i := by
  have t : bt (gb j) i = true ↔ Rc (NR gn) j i := (h.2.2.2.2.2 j i hj hi).1
  rw [has4_0 (gb j) (by omega), ← t, Bool.not_eq_true]
theorem expl_dual {gn gu gb ga : AA} (h : GI gn gu gb ga) {i t : Nat} (hi : i < 14) (ht : t < 14) : bt (f_X1_explainersOf gb (nI i)) t = true ↔ bt (f_X1_explainedBy ga (nI t)) i = true := by
  unfold f_X1_explainersOf f_X1_explainedBy
  have a : bt (gb i) t = true ↔ Rc (NR gn) i t := (h.2.2.2.2.2 i t hi ht).1
  have b : bt (ga t) i = true ↔ Rc (NR gn) i t := (h.2.2.2.2.2 i t hi ht).2
  rw [cl (by omega), cl (by omega), b_or, b_or, Bool.or_eq_true, Bool.or_eq_true, only_bT hi, only_bT ht, a, b]
  exact or_congr ⟨fun q => q.symm, fun q => q.symm⟩ Iff.rfl
end
section
/-! ===== the log, the states, the time: the class's answers and the reference's ===== -/
/-- both refuse, for the same kind of reason, or both answer the same -/
def Ag2 (o : String ⊕ Int32) (m : Int32 × Int32) : Prop := (∃ E, o = .inl E ∧ m.2 = if E = eIO then 1 else 2) ∨ ∃ v, o = .inr v ∧ m = (v, 0)
theorem in300 {j : Nat} (h : j < 300) : vp_in (nI j) 300 := vp_in_nI h (by decide)
theorem lt_le (a b : Int32) : a < b ↔ ¬ b ≤ a := Int32.not_le.symm
end
section
/-! ===== tickets: the class's numbers, the reference's sets ===== -/
/-- how many of the first j nodes have the number t -/
def cnt (tn : AA) (t : Int32) : Nat → Nat
  | 0 => 0
  | k + 1 => cnt tn t k + (if tn k = t then 1 else 0)
theorem cnt_cn {x t : Int32} {tn : AA} (h : ∀ k, k < 14 → (bt x k = true ↔ tn k = t)) : ∀ j, j ≤ 14 → cb x j = cnt tn t j
  | 0, _ => rfl
  | j + 1, hj => by
    rw [cb, cnt, cnt_cn h j (by omega)]
    by_cases c : tn j = t
    · rw [if_pos c, if_pos ((h j (by omega)).mpr c)]
    · rw [if_neg c, if_neg (fun q => c ((h j (by omega)).mp q))]
theorem cnt_le (tn : AA) (t : Int32) : ∀ j, cnt tn t j ≤ j
  | 0 => Nat.le_refl _
  | j + 1 => by have := cnt_le tn t j; rw [cnt]; split <;> omega
theorem cnt_cong {tn tn' : AA} {t : Int32} : ∀ j, (∀ k, k < j → (tn' k = t ↔ tn k = t)) → cnt tn' t j = cnt tn t j
  | 0, _ => rfl
  | j + 1, h => by
    rw [cnt, cnt, cnt_cong j (fun k hk => h k (by omega))]
    have := h j (by omega)
    by_cases c : tn j = t
    · rw [if_pos c, if_pos (this.mpr c)]
    · rw [if_neg c, if_neg (fun q => c (this.mp q))]
theorem cnt_move {tn tn' : AA} {a b : Int32} (hab : ¬ a = b) : ∀ j, (∀ k, k < j → tn' k = if tn k = a then b else tn k) → cnt tn' b j = cnt tn b j + cnt tn a j ∧ cnt tn' a j = 0
  | 0, _ => ⟨rfl, rfl⟩
  | j + 1, h => by
    obtain ⟨h1, h2⟩ := cnt_move hab j (fun k hk => h k (by omega))
    have e := h j (by omega)
    rw [cnt, cnt, cnt, cnt, h1, h2, e]
    by_cases c : tn j = a
    · have nb : ¬ tn j = b := fun q => hab (c.symm.trans q)
      rw [if_pos c, if_pos rfl, if_neg nb, if_pos c, if_neg (fun q => hab q.symm)]
      omega
    · rw [if_neg c, if_neg c]
      by_cases d : tn j = b
      · rw [if_pos d]; omega
      · rw [if_neg d]; omega
theorem cnt_put {tn : AA} {t : Int32} {a : Nat} (h0 : ¬ tn a = t) : ∀ j, cnt (upd tn a t) t j = cnt tn t j + (if a < j then 1 else 0)
  | 0 => rfl
  | j + 1 => by
    rw [cnt, cnt, cnt_put h0 j, upd_at]
    rcases Nat.lt_trichotomy a j with q | q | q
    · rw [if_pos q, if_neg (show ¬ j = a by omega), if_pos (show a < j + 1 by omega)]
      exact Nat.add_right_comm _ _ _
    · subst q
      rw [if_neg (Nat.lt_irrefl a), if_pos (rfl : a = a), if_pos (rfl : t = t), if_neg h0, if_pos (Nat.lt_succ_self a)]
    · rw [if_neg (show ¬ a < j by omega), if_neg (show ¬ j = a by omega), if_neg (show ¬ a < j + 1 by omega)]
      rfl
theorem cnt_off {tn : AA} {t z : Int32} {a : Nat} (h0 : tn a = t) (hz : ¬ z = t) : ∀ j, cnt (upd tn a z) t j + (if a < j then 1 else 0) = cnt tn t j
  | 0 => rfl
  | j + 1 => by
    have ih := cnt_off h0 hz j
    rw [cnt, cnt, ← ih, upd_at]
    rcases Nat.lt_trichotomy a j with q | q | q
    · rw [if_pos q, if_neg (show ¬ j = a by omega), if_pos (show a < j + 1 by omega)]
      exact Nat.add_right_comm _ _ _
    · subst q
      rw [if_neg (Nat.lt_irrefl a), if_pos (rfl : a = a), if_neg hz, if_pos (Nat.lt_succ_self a), if_pos h0]
    · rw [if_neg (show ¬ a < j by omega), if_neg (show ¬ j = a by omega), if_neg (show ¬ a < j + 1 by omega)]
      rfl
def TN (T : Nat) (r : Int32) (tn mt : AA) : Prop := ∀ k, k < 14 → (bt r k = false ∧ tn k = -1) ∨ (bt r k = true ∧ ∃ t, 1 ≤ t ∧ t ≤ T ∧ tn k = nI t ∧ mt k = nI t)
def TD (T : Nat) (tn md : AA) : Prop := ∀ t, 1 ≤ t → t ≤ T → M14 (md t) ∧ ∀ k, k < 14 → (bt (md t) k = true ↔ tn k = nI t)
def TF (T : Nat) (tt : AA) : Prop := ∀ t, T < t → t ≤ 300 → tt t = -1
def TZ (T : Nat) (tt md mz mi : AA) : Prop := ∀ t, 1 ≤ t → t ≤ T → (mz t = 1 ∧ ¬ md t = 0 ∧ tt t = -1) ∨ (mz t = 2 ∧ md t = 0 ∧ tt t = -1) ∨ (mz t = 3 ∧ md t = 0 ∧ ∃ s, 1 ≤ s ∧ s ≤ T ∧ mi t = nI s ∧ tt t = nI s)
def TK (T : Nat) (tn tt : AA) (r : Int32) (mt md mz mi : AA) : Prop := TN T r tn mt ∧ TD T tn md ∧ TF T tt ∧ TZ T tt md mz mi
theorem nIn {t : Nat} (ht : t ≤ 300) : ¬ nI t = -1 := (by decide +kernel : ∀ t, t < 301 → ¬ nI t = -1) t (by omega)
theorem nIi {s t : Nat} (hs : s ≤ 300) (ht : t ≤ 300) (h : nI s = nI t) : s = t := (nI_eq (by omega) (by omega)).mp h
theorem size_L {tn : AA} {a : Int32} : ∀ (c j n : Nat), j + c = 14 → c < n → p_X3_sizeOf_L14 tn a n (nI (cnt tn a j)) (nI j) ∧ f_X3_sizeOf_L14 tn a n (nI (cnt tn a j)) (nI j) = (nI (cnt tn a 14), nI 14) := by
  intro c
  induction c with
  | zero =>
    intro j n hj hn
    obtain ⟨n, rfl⟩ : ∃ m, n = m + 1 := ⟨n - 1, by omega⟩
    have e : j = 14 := by omega
    subst e
    refine ⟨?_, ?_⟩
    · rw [p_X3_sizeOf_L14]; exact ⟨fun _ => trivial, fun h => absurd y14 h⟩
    · rw [f_X3_sizeOf_L14, if_pos y14]
  | succ c ih =>
    intro j n hj hn
    obtain ⟨n, rfl⟩ : ∃ m, n = m + 1 := ⟨n - 1, by omega⟩
    have hj14 : j < 14 := by omega
    have l := n14 hj14
    obtain ⟨a1, a2⟩ := ih (j + 1) n (by omega) (by omega)
    by_cases C : tn j = a
    · have e : cnt tn a (j + 1) = cnt tn a j + 1 := by rw [cnt, if_pos C]
      rw [e] at a1 a2
      refine ⟨?_, ?_⟩
      · rw [p_X3_sizeOf_L14, cl (by omega), nI_1, nI_1]
        exact ⟨fun q => absurd q l, fun _ => ⟨in14 hj14, fun _ => a1, fun q => absurd C q⟩⟩
      · rw [f_X3_sizeOf_L14, if_neg l, cl (by omega), if_pos C, nI_1, nI_1]
        exact a2
    · have e : cnt tn a (j + 1) = cnt tn a j := by rw [cnt, if_neg C]; rfl
      rw [e] at a1 a2
      refine ⟨?_, ?_⟩
      · rw [p_X3_sizeOf_L14, cl (by omega), nI_1, nI_1]
        exact ⟨fun q => absurd q l, fun _ => ⟨in14 hj14, fun q => absurd q C, fun _ => a1⟩⟩
      · rw [f_X3_sizeOf_L14, if_neg l, cl (by omega), if_neg C, nI_1]
        exact a2
theorem size_p (T : Int32) (tn : AA) (a : Int32) : p_X3_sizeOf T tn a := by
  obtain ⟨h, -⟩ := size_L (tn := tn) (a := a) 14 0 15 rfl (by decide)
  have e : cnt tn a 0 = 0 := rfl
  rw [e, nI_0] at h
  exact ⟨fun _ => trivial, fun _ => ⟨h, fun _ _ _ => trivial⟩⟩
theorem us_1 {t T : Nat} (h1 : 1 ≤ t) (h2 : t ≤ T) (hT : T ≤ 300) : f_X3_isUsed (nI T) (nI t) = 1 := by
  unfold f_X3_isUsed
  dsimp only
  have l1 : ¬ nI t < 1 := nI_nlt (b := 1) h1 (by omega)
  have l2 : ¬ nI T < nI t := nI_nlt h2 (by omega)
  have l3 : ¬ (301 : Int32) ≤ nI t := nI_ge (b := 301) (by omega) (by decide)
  rw [if_neg l1, if_neg l2, if_neg l3]
theorem size_c {t T : Nat} (tn : AA) (h1 : 1 ≤ t) (h2 : t ≤ T) (hT : T ≤ 300) : f_X3_sizeOf (nI T) tn (nI t) = nI (cnt tn (nI t) 14) := by
  obtain ⟨-, h⟩ := size_L (tn := tn) (a := nI t) 14 0 15 rfl (by decide)
  have e : cnt tn (nI t) 0 = 0 := rfl
  rw [e, nI_0] at h
  unfold f_X3_sizeOf
  rw [us_1 h1 h2 hT, if_neg (by decide), h]
theorem TK.size {T : Nat} {tn tt mt md mz mi : AA} {r : Int32} (hT : T ≤ 300) (h : TK T tn tt r mt md mz mi) {t : Nat} (h1 : 1 ≤ t) (h2 : t ≤ T) : f_X3_sizeOf (nI T) tn (nI t) = nI (cn (md t)) := by
  rw [size_c tn h1 h2 hT, cn, cnt_cn (h.2.1 t h1 h2).2 14 (Nat.le_refl _)]
theorem in301 {j : Nat} (h : j ≤ 300) : vp_in (nI j) 301 := vp_in_nI (by omega) (by decide)
theorem in302 {j : Nat} (h : j ≤ 301) : vp_in (nI j) 302 := vp_in_nI (by omega) (by decide)
theorem tk_c (a : Int32) {T : Nat} (hT : T ≤ 300) : (∃ t, 1 ≤ t ∧ t ≤ T ∧ a = nI t ∧ f_X3_isUsed (nI T) a = 1) ∨ f_X3_isUsed (nI T) a = 0 := by
  unfold f_X3_isUsed
  dsimp only
  rcases pk_ix a (n := T + 1) (by omega) with q | q | ⟨t, ht, e⟩
  · have l : a < 1 := Int32.lt_of_lt_of_le q (by decide)
    exact Or.inr (by rw [if_pos l])
  · have l : nI T < a := Int32.lt_of_lt_of_le (nI_lt (Nat.lt_succ_self T) (by omega)) q
    have l1 : ¬ a < 1 := fun c => Int32.lt_irrefl (Int32.lt_of_lt_of_le c (Int32.le_trans ((nI_leI (a := 1) (b := T + 1) (by decide) (by omega)).mpr (by omega)) q))
    exact Or.inr (by rw [if_neg l1, if_pos l])
  · rcases Nat.eq_zero_or_pos t with z | z
    · subst z
      have l : a < 1 := by rw [e]; decide
      exact Or.inr (by rw [if_pos l])
    · have l1 : ¬ a < 1 := by rw [e]; exact nI_nlt (b := 1) z (by omega)
      have l2 : ¬ nI T < a := by rw [e]; exact nI_nlt (by omega) (by omega)
      have l3 : ¬ (301 : Int32) ≤ a := by rw [e]; exact nI_ge (b := 301) (by omega) (by decide)
      exact Or.inl ⟨t, z, by omega, e, by rw [if_neg l1, if_neg l2, if_neg l3]⟩
theorem us_in {a : Int32} {T : Nat} (hT : T ≤ 300) (q : ¬ f_X3_isUsed (nI T) a = 0) : vp_in a 301 ∧ vp_in a 302 := by
  rcases tk_c a hT with ⟨t, h1, h2, e, -⟩ | z
  · rw [e]; exact ⟨in301 (by omega), in302 (by omega)⟩
  · exact absurd z q
theorem ts_val {T : Nat} {tn tt mt md mz mi : AA} {r : Int32} (hT : T ≤ 300) (h : TK T tn tt r mt md mz mi) {t : Nat} (h1 : 1 ≤ t) (h2 : t ≤ T) : (if tt t = -1 then (if f_X3_sizeOf (nI T) tn (nI t) ≤ 0 then (2 : Int32) else (1 : Int32)) else (3 : Int32)) = mz t := by
  have es := h.size hT h1 h2
  have hc := cn_le (md t)
  rcases h.2.2.2 t h1 h2 with ⟨a, b, c⟩ | ⟨a, b, c⟩ | ⟨a, b, s, s1, s2, s3, s4⟩
  · have hp : 0 < cn (md t) := by
      rcases Nat.eq_zero_or_pos (cn (md t)) with z | z
      · exfalso
        refine b (M14.ext (h.2.1 t h1 h2).1 M14.zero fun i hi => ?_)
        rw [cb_zero.mp z i hi, b_0]
      · exact z
    have hn : ¬ f_X3_sizeOf (nI T) tn (nI t) ≤ 0 := by rw [es]; exact nI_ge (a := 0) hp (by omega)
    rw [if_pos c, if_neg hn, a]
  · have z : f_X3_sizeOf (nI T) tn (nI t) ≤ 0 := by rw [es, b]; decide +kernel
    rw [if_pos c, if_pos z, a]
  · rw [if_neg (by rw [s4]; exact nIn (by omega)), a]
/-- a node leaves its ticket -/
theorem leave_spec {T : Nat} {tn tt mt md mz mi : AA} {r : Int32} (hT : T ≤ 300) (h : TK T tn tt r mt md mz mi) {i : Nat} (hi : i < 14) (hr : bt r i = true) : ∃ t, 1 ≤ t ∧ t ≤ T ∧ tn i = nI t ∧ mt i = nI t ∧ f_X3_sizeOf (nI T) (upd tn i (-1)) (nI t) = nI (cn (md t &&& (f_X4_only (nI i) ^^^ (-1)))) ∧
    TK T (upd tn i (-1)) tt (r &&& (f_X4_only (nI i) ^^^ (-1))) mt (upd md t (md t &&& (f_X4_only (nI i) ^^^ (-1)))) (upd mz t (if md t &&& (f_X4_only (nI i) ^^^ (-1)) = 0 then 2 else 1)) mi := by
  obtain ⟨hN, hD, hF, hZ⟩ := id h
  rcases hN i hi with ⟨b, -⟩ | ⟨-, t, h1, h2, h3, h4⟩
  · rw [b] at hr; cases hr
  refine ⟨t, h1, h2, h3, h4, ?_⟩
  have cut : ∀ (x : Int32) (k : Nat), k < 14 → (bt (x &&& (f_X4_only (nI i) ^^^ (-1))) k = true ↔ bt x k = true ∧ ¬ k = i) := fun x k hk => by
    rw [b_and, not_b _ (by omega), only_b hi, Bool.and_eq_true]
    simp
  have hD2 : TD T (upd tn i (-1)) (upd md t (md t &&& (f_X4_only (nI i) ^^^ (-1)))) := fun t' a1 a2 => by
    rw [upd_at]
    by_cases e : t' = t
    · subst e
      rw [if_pos rfl]
      refine ⟨(hD t' a1 a2).1.and _, fun k hk => ?_⟩
      rw [cut _ k hk, upd_at, (hD t' a1 a2).2 k hk]
      by_cases c : k = i
      · rw [if_pos c]
        exact ⟨fun q => absurd c q.2, fun q => absurd q.symm (nIn (by omega))⟩
      · rw [if_neg c]
        exact ⟨fun q => q.1, fun q => ⟨q, c⟩⟩
    · rw [if_neg e]
      refine ⟨(hD t' a1 a2).1, fun k hk => ?_⟩
      rw [upd_at, (hD t' a1 a2).2 k hk]
      by_cases c : k = i
      · rw [if_pos c, c, h3]
        exact ⟨fun q => absurd (nIi (by omega) (by omega) q).symm e, fun q => absurd q.symm (nIn (by omega))⟩
      · rw [if_neg c]
  have ec : cn (md t &&& (f_X4_only (nI i) ^^^ (-1))) = cnt (upd tn i (-1)) (nI t) 14 := by
    have := (hD2 t h1 h2).2
    rw [upd_at, if_pos rfl] at this
    exact cnt_cn this 14 (Nat.le_refl _)
  refine ⟨by rw [size_c _ h1 h2 hT, ec], ?_, hD2, hF, ?_⟩
  · intro k hk
    by_cases c : k = i
    · refine Or.inl ⟨?_, by rw [upd_at, if_pos c]⟩
      cases hb : bt (r &&& (f_X4_only (nI i) ^^^ (-1))) k
      · rfl
      · exact absurd c ((cut r k hk).mp hb).2
    · rw [upd_at, if_neg c]
      rcases hN k hk with ⟨b, e⟩ | ⟨b, t', a1, a2, a3, a4⟩
      · refine Or.inl ⟨?_, e⟩
        cases hb : bt (r &&& (f_X4_only (nI i) ^^^ (-1))) k
        · rfl
        · rw [((cut r k hk).mp hb).1] at b; cases b
      · exact Or.inr ⟨(cut r k hk).mpr ⟨b, c⟩, t', a1, a2, a3, a4⟩
  · intro t' a1 a2
    rw [upd_at, upd_at]
    by_cases e : t' = t
    · subst e
      rw [if_pos rfl, if_pos rfl]
      have hne : ¬ md t' = 0 := fun q => by
        have := ((hD t' a1 a2).2 i hi).mpr h3
        rw [q, b_0] at this
        cases this
      have htt : tt t' = -1 := by
        rcases hZ t' a1 a2 with ⟨_, _, c⟩ | ⟨_, _, c⟩ | ⟨_, b, _⟩
        · exact c
        · exact c
        · exact absurd b hne
      by_cases z : md t' &&& (f_X4_only (nI i) ^^^ (-1)) = 0
      · rw [if_pos z]; exact Or.inr (Or.inl ⟨rfl, z, htt⟩)
      · rw [if_neg z]; exact Or.inl ⟨rfl, z, htt⟩
    · rw [if_neg e, if_neg e]
      exact hZ t' a1 a2
end
section
/-! ===== a node joins: the class merges by nodes, the reference by tickets ===== -/
theorem merge_L {t m : Int32} : ∀ (r j n : Nat) (tn : AA), j + r = 14 → r < n → p_X3_merge_L2 t m n (nI j) tn ∧ ∃ tn', f_X3_merge_L2 t m n (nI j) tn = (nI 14, tn') ∧ ∀ k, tn' k = if j ≤ k ∧ k < 14 ∧ tn k = t then m else tn k := by
  intro r
  induction r with
  | zero =>
    intro j n tn hj hn
    obtain ⟨n, rfl⟩ : ∃ k, n = k + 1 := ⟨n - 1, by omega⟩
    have e : j = 14 := by omega
    subst e
    refine ⟨?_, tn, ?_, fun k => ?_⟩
    · rw [p_X3_merge_L2]; exact ⟨fun _ => trivial, fun q => absurd y14 q⟩
    · rw [f_X3_merge_L2, if_pos y14]
    · rw [if_neg (fun q => by omega)]
  | succ r ih =>
    intro j n tn hj hn
    obtain ⟨n, rfl⟩ : ∃ k, n = k + 1 := ⟨n - 1, by omega⟩
    have hj14 : j < 14 := by omega
    have l := n14 hj14
    by_cases c : tn j = t
    · obtain ⟨a1, tn', a2, a3⟩ := ih (j + 1) n (upd tn j m) (by omega) (by omega)
      refine ⟨?_, tn', ?_, fun k => ?_⟩
      · rw [p_X3_merge_L2, cl (by omega), nI_1]
        exact ⟨fun q => absurd q l, fun _ => ⟨in14 hj14, fun _ => ⟨in14 hj14, a1⟩, fun q => absurd c q⟩⟩
      · rw [f_X3_merge_L2, if_neg l, cl (by omega), if_pos c, nI_1]
        exact a2
      · rw [a3 k, upd_at]
        by_cases e : k = j
        · subst e
          rw [if_pos rfl, if_neg (fun q => by omega), if_pos ⟨Nat.le_refl _, hj14, c⟩]
        · rw [if_neg e]
          by_cases w : j ≤ k ∧ k < 14 ∧ tn k = t
          · rw [if_pos w, if_pos ⟨by omega, w.2⟩]
          · rw [if_neg w, if_neg (fun q => w ⟨by omega, q.2⟩)]
    · obtain ⟨a1, tn', a2, a3⟩ := ih (j + 1) n tn (by omega) (by omega)
      refine ⟨?_, tn', ?_, fun k => ?_⟩
      · rw [p_X3_merge_L2, cl (by omega), nI_1]
        exact ⟨fun q => absurd q l, fun _ => ⟨in14 hj14, fun q => absurd q c, fun _ => a1⟩⟩
      · rw [f_X3_merge_L2, if_neg l, cl (by omega), if_neg c, nI_1]
        exact a2
      · rw [a3 k]
        by_cases w : j ≤ k ∧ k < 14 ∧ tn k = t
        · have e : ¬ k = j := fun q => c (by rw [← q]; exact w.2.2)
          rw [if_pos w, if_pos ⟨by omega, w.2⟩]
        · rw [if_neg w, if_neg (fun q => w ⟨by omega, q.2⟩)]
theorem merge_spec (tn tt : AA) {T t m : Nat} (hT : T ≤ 300) (t1 : 1 ≤ t) (t2 : t ≤ T) : p_X3_merge (nI T) tn (nI t) (nI m) ∧ ∃ tn', f_X3_merge (nI T) tn tt (nI t) (nI m) = (tn', upd tt t (nI m)) ∧ ∀ k, k < 14 → tn' k = if tn k = nI t then nI m else tn k := by
  obtain ⟨a1, tn', a2, a3⟩ := merge_L (t := nI t) (m := nI m) 14 0 15 tn rfl (by decide)
  rw [nI_0] at a1 a2
  refine ⟨⟨a1, fun _ _ _ => ⟨fun _ => trivial, fun _ => ⟨in301 (by omega), trivial⟩⟩⟩, tn', ?_, fun k hk => ?_⟩
  · unfold f_X3_merge
    rw [a2]
    dsimp only
    rw [us_1 t1 t2 hT, if_neg (by decide), cl (by omega)]
  · rw [a3 k]
    by_cases c : tn k = nI t
    · rw [if_pos ⟨Nat.zero_le _, hk, c⟩, if_pos c]
    · rw [if_neg (fun q => c q.2.2), if_neg c]
/-- the tickets of P have gone into m -/
def MG (P : Nat → Prop) (T m : Nat) (tn0 tt0 tn tt : AA) : Prop := (∀ k, k < 14 → ((∃ t, P t ∧ tn0 k = nI t) → tn k = nI m) ∧ ((¬ ∃ t, P t ∧ tn0 k = nI t) → tn k = tn0 k)) ∧ (∀ t, T < t → tt t = tt0 t) ∧ ∀ t, 1 ≤ t → t ≤ T → (P t → tt t = nI m) ∧ (¬ P t → tt t = tt0 t)
theorem MG.cong {P P' : Nat → Prop} (h : ∀ t, P t ↔ P' t) {T m : Nat} {tn0 tt0 tn tt : AA} (q : MG P T m tn0 tt0 tn tt) : MG P' T m tn0 tt0 tn tt := by
  have e : P = P' := funext fun t => propext (h t)
  rw [← e]
  exact q
def Pj (T m : Nat) (K : Int32) (tn0 : AA) (j t : Nat) : Prop := ¬ t = m ∧ (1 ≤ t ∧ t ≤ T) ∧ ∃ k, k < j ∧ bt K k = true ∧ tn0 k = nI t
theorem MG.step {P : Nat → Prop} {T m t : Nat} {tn0 tt0 tn tt tn' : AA} (hT : T ≤ 300) (hP : ∀ t, P t → 1 ≤ t ∧ t ≤ T) (ht1 : 1 ≤ t) (htT : t ≤ T) (hm1 : 1 ≤ m) (hmT : m ≤ T) (htm : ¬ t = m) (hPt : ¬ P t) (h : MG P T m tn0 tt0 tn tt) (he : ∀ k, k < 14 → tn' k = if tn k = nI t then nI m else tn k) : MG (fun s => P s ∨ s = t) T m tn0 tt0 tn' (upd tt t (nI m)) := by
  have hab : ¬ nI m = nI t := fun q => htm (nIi (by omega) (by omega) q).symm
  refine ⟨fun k hk => ?_, fun s hs => by rw [upd_at, if_neg (by omega)]; exact h.2.1 s hs, fun s s1 s2 => ?_⟩
  · obtain ⟨h1, h2⟩ := h.1 k hk
    by_cases w : ∃ s, P s ∧ tn0 k = nI s
    · have e1 : tn' k = nI m := by rw [he k hk, h1 w, if_neg hab]
      obtain ⟨s, s1, s2⟩ := w
      exact ⟨fun _ => e1, fun q => absurd ⟨s, Or.inl s1, s2⟩ q⟩
    · have e0 := h2 w
      rw [he k hk, e0]
      by_cases c : tn0 k = nI t
      · rw [if_pos c]
        exact ⟨fun _ => rfl, fun q => absurd ⟨t, Or.inr rfl, c⟩ q⟩
      · rw [if_neg c]
        refine ⟨?_, fun _ => rfl⟩
        rintro ⟨s, s1 | s1, s2⟩
        · exact absurd ⟨s, s1, s2⟩ w
        · rw [s1] at s2; exact absurd s2 c
  · obtain ⟨h1, h2⟩ := h.2.2 s s1 s2
    rw [upd_at]
    by_cases e : s = t
    · rw [if_pos e]
      exact ⟨fun _ => rfl, fun q => absurd (Or.inr e) q⟩
    · rw [if_neg e]
      exact ⟨fun q => h1 (q.resolve_right e), fun q => h2 (fun z => q (Or.inl z))⟩
theorem unite_L40 {T m : Nat} {K : Int32} {tn0 tt0 : AA} (hT : T ≤ 300) (hm1 : 1 ≤ m) (hmT : m ≤ T) (hK : ∀ k, k < 14 → bt K k = true → ∃ t, 1 ≤ t ∧ t ≤ T ∧ tn0 k = nI t) : ∀ (r j n : Nat) (tn tt : AA), j + r = 14 → r < n → MG (Pj T m K tn0 j) T m tn0 tt0 tn tt →
    p_X3_unite_L40 (nI T) K (nI m) n (nI j) tn tt ∧ ∃ tn' tt', f_X3_unite_L40 (nI T) K (nI m) n (nI j) tn tt = (nI 14, tn', tt') ∧ MG (Pj T m K tn0 14) T m tn0 tt0 tn' tt' := by
  intro r
  induction r with
  | zero =>
    intro j n tn tt hj hn h
    obtain ⟨n, rfl⟩ : ∃ k, n = k + 1 := ⟨n - 1, by omega⟩
    have e : j = 14 := by omega
    subst e
    refine ⟨?_, tn, tt, ?_, h⟩
    · rw [p_X3_unite_L40]; exact ⟨fun _ => trivial, fun q => absurd y14 q⟩
    · rw [f_X3_unite_L40, if_pos y14]
  | succ r ih =>
    intro j n tn tt hj hn h
    obtain ⟨n, rfl⟩ : ∃ k, n = k + 1 := ⟨n - 1, by omega⟩
    have hj14 : j < 14 := by omega
    have l := n14 hj14
    have hh := has4_0 K (n := j) (by omega)
    have wide : (∀ t, bt K j = true → 1 ≤ t → t ≤ T → tn0 j = nI t → t = m ∨ Pj T m K tn0 j t) → ∀ t, Pj T m K tn0 j t ↔ Pj T m K tn0 (j + 1) t := fun w t => by
      constructor
      · rintro ⟨a, b, k, k1, k2, k3⟩; exact ⟨a, b, k, by omega, k2, k3⟩
      · rintro ⟨a, b, k, k1, k2, k3⟩
        rcases Nat.lt_or_ge k j with q | q
        · exact ⟨a, b, k, q, k2, k3⟩
        · have e : k = j := by omega
          subst e
          exact (w t k2 b.1 b.2 k3).resolve_left a
    cases hb : bt K j
    · have c0 := hh.mpr hb
      obtain ⟨a1, tn', tt', a2, a3⟩ := ih (j + 1) n tn tt (by omega) (by omega) (h.cong (wide (fun t q _ _ _ => by rw [hb] at q; cases q)))
      refine ⟨?_, tn', tt', ?_, a3⟩
      · rw [p_X3_unite_L40, nI_1]
        exact ⟨fun q => absurd q l, fun _ => ⟨fun _ => a1, fun q => absurd c0 q⟩⟩
      · rw [f_X3_unite_L40, if_neg l, if_pos c0, nI_1]
        exact a2
    · have c0 : ¬ f_X4_has K (nI j) = 0 := fun q => by rw [hh.mp q] at hb; cases hb
      obtain ⟨t, t1, t2, t3⟩ := hK j hj14 hb
      have one : ∀ s, 1 ≤ s → s ≤ T → tn0 j = nI s → s = t := fun s s1 s2 s3 => nIi (by omega) (by omega) (s3.symm.trans t3)
      by_cases hs : t = m ∨ Pj T m K tn0 j t
      · have ej : tn j = nI m := by
          rcases hs with e | e
          · rw [(h.1 j hj14).2 (fun ⟨s, s1, s2⟩ => s1.1 ((one s s1.2.1.1 s1.2.1.2 s2).trans e)), t3, e]
          · exact (h.1 j hj14).1 ⟨t, e, t3⟩
        obtain ⟨a1, tn', tt', a2, a3⟩ := ih (j + 1) n tn tt (by omega) (by omega) (h.cong (wide (fun s _ s1 s2 s3 => by rw [one s s1 s2 s3]; exact hs)))
        refine ⟨?_, tn', tt', ?_, a3⟩
        · rw [p_X3_unite_L40, nI_1, cl (by omega)]
          exact ⟨fun q => absurd q l, fun _ => ⟨fun q => absurd q c0, fun _ => ⟨in14 hj14, fun _ => a1, fun q => absurd ej q⟩⟩⟩
        · rw [f_X3_unite_L40, if_neg l, if_neg c0, cl (by omega), if_pos ej, nI_1]
          exact a2
      · have htm : ¬ t = m := fun q => hs (Or.inl q)
        have hPt : ¬ Pj T m K tn0 j t := fun q => hs (Or.inr q)
        have ej : tn j = nI t := by
          rw [(h.1 j hj14).2 (fun ⟨s, s1, s2⟩ => hPt (by rw [← one s s1.2.1.1 s1.2.1.2 s2]; exact s1)), t3]
        have ne : ¬ nI t = nI m := fun q => htm (nIi (by omega) (by omega) q)
        obtain ⟨g1, tn1, g2, g3⟩ := merge_spec tn tt (m := m) hT t1 t2
        have hst := h.step hT (fun s q => q.2.1) t1 t2 hm1 hmT htm hPt g3
        have hst2 : MG (Pj T m K tn0 (j + 1)) T m tn0 tt0 tn1 (upd tt t (nI m)) := hst.cong fun s => by
          constructor
          · rintro (⟨a, b, k, k1, k2, k3⟩ | e)
            · exact ⟨a, b, k, by omega, k2, k3⟩
            · rw [e]; exact ⟨htm, ⟨t1, t2⟩, j, Nat.lt_succ_self _, hb, t3⟩
          · rintro ⟨a, b, k, k1, k2, k3⟩
            rcases Nat.lt_or_ge k j with q | q
            · exact Or.inl ⟨a, b, k, q, k2, k3⟩
            · have e : k = j := by omega
              subst e
              exact Or.inr (one s b.1 b.2 k3)
        obtain ⟨a1, tn', tt', a2, a3⟩ := ih (j + 1) n _ _ (by omega) (by omega) hst2
        refine ⟨?_, tn', tt', ?_, a3⟩
        · rw [p_X3_unite_L40, nI_1, cl (by omega), ej, g2]
          refine ⟨fun q => absurd q l, fun _ => ⟨fun q => absurd q c0, fun _ => ⟨in14 hj14, fun q => absurd q ne, fun _ => ⟨in14 hj14, g1, fun x y hxy => ?_⟩⟩⟩⟩
          cases hxy
          exact a1
        · rw [f_X3_unite_L40, if_neg l, if_neg c0, cl (by omega), ej, if_neg ne, g2, nI_1]
          exact a2
/-- the lowest number of the nodes of K, as far as j -/
def Mn (T : Nat) (K : Int32) (tn : AA) (j : Nat) (v7 v4 : Int32) : Prop := ((∀ k, k < j → bt K k = false) ∧ v7 = nI T ∧ v4 = -1) ∨ ∃ m, 1 ≤ m ∧ m ≤ T ∧ v7 = nI m ∧ v4 = nI m ∧ (∃ k, k < j ∧ bt K k = true ∧ tn k = nI m) ∧ ∀ k t, k < j → bt K k = true → t ≤ T → tn k = nI t → m ≤ t
end
section
/-! ===== what the law's own calls answer ===== -/
theorem chk {i : Nat} (hi : i < 14) : f_X4_checkNode (nI i) = .inr () := by
  have n0 : ¬ nI i < 0 := nI_pos (by omega)
  have n1 : nI i < (14 : Int32) := nI_lt (b := 14) hi (by decide)
  unfold f_X4_checkNode
  rw [if_neg n0, if_pos n1]
theorem ite01 (b : Bool) : (if (if b = true then (1 : Int32) else 0) = 0 then (0 : Int32) else 1) = if b = true then 1 else 0 := by cases b <;> decide +kernel
theorem ite10 (b : Bool) : ¬ (if (if b = true then (0 : Int32) else 1) = 0 then (0 : Int32) else 1) < 0 := by cases b <;> decide +kernel
theorem b01 (b : Bool) : (if b = true then (1 : Int32) else 0) = 1 ↔ b = true := by cases b <;> decide +kernel
theorem b00 (b : Bool) : (if b = true then (1 : Int32) else 0) = 0 ↔ b = false := by cases b <;> decide +kernel
theorem sh1 (x : Int32) {n : Nat} (hn : n < 32) : (x >>> (nI n &&& 31)) &&& 1 = 1 ↔ bt x n = true := by rw [shr1 x hn]; exact b01 _
theorem q_needs (gn : AA) {i j : Nat} (hi : i < 14) (hj : j < 14) : p_L_needs gn (nI i) (nI j) ∧ f_L_needs gn (nI i) (nI j) = if bt (gn i) j = true then 1 else 0 := by
  have e : f_X4_needs gn (nI i) (nI j) = .inr (if bt (gn i) j = true then 1 else 0) := by
    unfold f_X4_needs
    rw [chk hi, chk hj]
    dsimp only
    rw [ndd hi, has4 _ (by omega)]
  refine ⟨⟨fun _ _ => ⟨⟨in14 hi, trivial⟩, trivial⟩, fun r hr => ⟨⟨fun _ => trivial, fun _ => trivial⟩, fun _ _ => trivial⟩⟩, ?_⟩
  unfold f_L_needs
  rw [e]
  exact ite01 _
theorem q_depends (gb : AA) {i j : Nat} (hi : i < 14) (hj : j < 14) : p_L_depends gb (nI i) (nI j) ∧ f_L_depends gb (nI i) (nI j) = if bt (gb i) j = true then 1 else 0 := by
  have e : f_X4_dependsOn gb (nI i) (nI j) = .inr (if bt (gb i) j = true then 1 else 0) := by
    unfold f_X4_dependsOn
    rw [chk hi, chk hj]
    dsimp only
    rw [bel hi, has4 _ (by omega)]
  refine ⟨⟨fun _ _ => ⟨⟨in14 hi, trivial⟩, trivial⟩, fun r hr => ⟨⟨fun _ => trivial, fun _ => trivial⟩, fun _ _ => trivial⟩⟩, ?_⟩
  unfold f_L_depends
  rw [e]
  exact ite01 _
/-- the height of a node -/
def Hh (g : AA) (i : Nat) : Nat := (f_L_height g (nI i)).toNatClampNeg
theorem q_height {g : AA} (hg : RM g) (ha : Ac (NR g)) {i : Nat} (hi : i < 14) : p_L_height g (nI i) ∧ f_L_height g (nI i) = nI (Hh g i) ∧ Hh g i < 14 ∧ Hg g i (Hh g i) := by
  obtain ⟨p1, h, e, h14, hh⟩ := lwd_spec hg ha hi
  have e2 : f_X4_height g (nI i) = .inr (nI h) := by
    unfold f_X4_height
    rw [chk hi]
    dsimp only
    rw [e]
  have e3 : f_L_height g (nI i) = nI h := by
    unfold f_L_height
    rw [e2]
  have e4 : Hh g i = h := by unfold Hh; rw [e3, cl (by omega)]
  refine ⟨⟨fun _ => ⟨p1, trivial⟩, fun _ _ => trivial⟩, ?_, ?_, ?_⟩
  · rw [e4]; exact e3
  · rw [e4]; exact h14
  · rw [e4]; exact hh
theorem q_need {gn gu gb ga : AA} (h : GI gn gu gb ga) {i j : Nat} (hi : i < 14) (hj : j < 14) : p_L_need gn gu gb ga (nI i) (nI j) ∧
    (((i = j ∨ bt (gb j) i = true) ∧ f_L_need gn gu gb ga (nI i) (nI j) = (-102, gn, gu, gb, ga)) ∨
     (¬ (i = j ∨ bt (gb j) i = true) ∧ ∃ v gn' gu' gb' ga', f_L_need gn gu gb ga (nI i) (nI j) = (v, gn', gu', gb', ga') ∧ ¬ v < 0 ∧ GI gn' gu' gb' ga' ∧ bt (gn' i) j = true)) := by
  have hgb := has_gb h hi hj
  have hb4 := has4_0 (gb j) (n := i) (by omega)
  have hnij : ¬ i = j → ¬ nI i = nI j := fun q c => q ((nI_eq (by omega) (by omega)).mp c)
  constructor
  · refine ⟨fun _ _ => ⟨fun _ => trivial, fun q3 => ⟨⟨in14 hj, trivial⟩, fun q4 => ⟨?_, fun _ _ _ _ _ _ => trivial⟩, fun _ => trivial⟩⟩, fun _ _ _ _ _ _ => ⟨⟨fun _ => trivial, fun _ => trivial⟩, fun _ _ => trivial⟩⟩
    rw [bel hj, hgb] at q4
    exact (link_spec h hi hj (fun c => q3 (by rw [c])) q4).1
  · by_cases hij : i = j
    · refine Or.inl ⟨Or.inl hij, ?_⟩
      have e : f_X4_need gn gu gb ga (nI i) (nI j) = .inl eIA := by
        unfold f_X4_need
        rw [chk hi, chk hj]
        dsimp only
        rw [if_pos (by rw [hij])]
      unfold f_L_need
      rw [e]
      dsimp only
      rw [if_neg eIA_ne]
    · cases hc : bt (gb j) i
      · obtain ⟨l1, gn', gu', gb', ga', l2, l3, l4⟩ := link_spec h hi hj hij (hgb.mp (hb4.mpr hc))
        refine Or.inr ⟨fun q => q.elim hij (fun q => by cases q), (if (if bt (gn i) j = true then (0 : Int32) else 1) = 0 then 0 else 1), gn', gu', gb', ga', ?_, ite10 _, l3, ?_⟩
        · have e : f_X4_need gn gu gb ga (nI i) (nI j) = .inr ((if bt (gn i) j = true then 0 else 1), gn', gu', gb', ga') := by
            unfold f_X4_need
            rw [chk hi, chk hj]
            dsimp only
            rw [if_neg (hnij hij), bel hj, if_pos (hb4.mpr hc), l2]
          unfold f_L_need
          rw [e]
        · rw [l4 i hi, upd_at, if_pos rfl, b_or, (only_bT hj).mpr rfl, Bool.or_true]
      · refine Or.inl ⟨Or.inr rfl, ?_⟩
        have e : f_X4_need gn gu gb ga (nI i) (nI j) = .inl eIA := by
          unfold f_X4_need
          rw [chk hi, chk hj]
          dsimp only
          rw [if_neg (hnij hij), bel hj, if_neg (fun c => by rw [hb4.mp c] at hc; cases hc)]
        unfold f_L_need
        rw [e]
        dsimp only
        rw [if_neg eIA_ne]
theorem q_release {gn gu gb ga : AA} (h : GI gn gu gb ga) {i j : Nat} (hi : i < 14) (hj : j < 14) : p_L_release gn gu gb ga (nI i) (nI j) ∧
    ∃ gn' gu' gb' ga', f_L_release gn gu gb ga (nI i) (nI j) = ((if bt (gn i) j = true then 1 else 0), gn', gu', gb', ga') ∧ GI gn' gu' gb' ga' ∧ bt (gn' i) j = false := by
  obtain ⟨l1, gn', gu', gb', ga', l2, l3, l4⟩ := unlink_spec h hi hj
  constructor
  · exact ⟨fun _ _ => ⟨l1, fun _ _ _ _ _ _ => trivial⟩, fun _ _ _ _ _ _ => ⟨⟨fun _ => trivial, fun _ => trivial⟩, fun _ _ => trivial⟩⟩
  · refine ⟨gn', gu', gb', ga', ?_, l3, ?_⟩
    · have e : f_X4_release gn gu gb ga (nI i) (nI j) = .inr ((if bt (gn i) j = true then 1 else 0), gn', gu', gb', ga') := by
        unfold f_X4_release
        rw [chk hi, chk hj]
        dsimp only
        rw [l2]
      unfold f_L_release
      rw [e]
      dsimp only
      rw [ite01]
    · rw [l4 i hi, upd_at, if_pos rfl, b_and, not_b _ (by omega), (only_bT hj).mpr rfl]
      exact Bool.and_false _
theorem q_tick (xt : Int32) {m : Nat} (h1 : 1 ≤ m) (h2 : m ≤ 100) : f_L_tick xt (nI m) = (xt + nI m, xt + nI m) := by
  have e : f_X4_checkTicks (nI m) 100 = .inr () := by
    have n0 : ¬ nI m < 1 := nI_nlt (b := 1) h1 (by omega)
    have n1 : nI m ≤ (100 : Int32) := nI_le (b := 100) h2 (by decide)
    unfold f_X4_checkTicks
    rw [if_neg n0, if_pos n1]
  unfold f_L_tick f_X4_tick
  rw [e]
theorem q_ticket (tn : AA) {k : Nat} (hk : k < 14) : p_L_ticket tn (nI k) ∧ f_L_ticket tn (nI k) = tn k := by
  have e : f_X4_ticketOf tn (nI k) = .inr (tn k) := by
    unfold f_X4_ticketOf f_X3_numberOf
    rw [chk hk, cl (by omega)]
  refine ⟨⟨fun _ => ⟨⟨in14 hk, trivial⟩, trivial⟩, fun _ _ => trivial⟩, ?_⟩
  unfold f_L_ticket
  rw [e]
/-! causes -/
abbrev PP (gu : AA) (r : Int32) : Int32 := f_X0_plausibleOf gu r
abbrev BB (gu gb ga : AA) (r : Int32) : Int32 := f_X0_bestBySearch r (f_X0_plausibleOf gu r) gb ga
theorem BB_M {gn gu gb ga : AA} (h : GI gn gu gb ga) {r : Int32} (hr : M14 r) : M14 (BB gu gb ga r) := (search_best h hr).2.1.1.M (plOf h.2.1 hr).2.1
theorem q_plaus {gu : AA} (hu : RM gu) {r : Int32} (hr : M14 r) {k : Nat} (hk : k < 14) : p_L_plausible r gu (nI k) ∧ f_L_plausible r gu (nI k) = if bt (PP gu r) k = true then 1 else 0 := by
  have e : f_X4_isPlausible r gu (nI k) = .inr (if bt (PP gu r) k = true then 1 else 0) := by
    unfold f_X4_isPlausible
    rw [chk hk, diag_eq]
    dsimp only
    unfold f_X0_plausibleNodes
    rw [has4 _ (by omega)]
  refine ⟨⟨fun _ => ⟨diag_p hu hr, fun _ _ _ => trivial⟩, fun _ _ => ⟨⟨fun _ => trivial, fun _ => trivial⟩, fun _ _ => trivial⟩⟩, ?_⟩
  unfold f_L_plausible
  rw [e]
  exact ite01 _
theorem q_causes {gn gu gb ga : AA} (h : GI gn gu gb ga) {r : Int32} (hr : M14 r) : p_X4_causes r gu gb ga ∧ f_X4_causes r gu gb ga = nI (cn (BB gu gb ga r)) := by
  refine ⟨⟨diag_p h.2.1 hr, fun u v huv => ?_⟩, ?_⟩
  · rw [diag_eq] at huv
    cases huv
    exact ⟨(search_best h hr).1, trivial⟩
  · unfold f_X4_causes
    rw [diag_eq]
    dsimp only
    exact count6 (BB_M h hr)
theorem q_cause {gn gu gb ga : AA} (h : GI gn gu gb ga) {r : Int32} (hr : M14 r) (p : Int32) : p_L_cause r gu gb ga p ∧ f_L_cause r gu gb ga p = if f_X4_nodeAtPlace (BB gu gb ga r) p = -1 then -101 else f_X4_nodeAtPlace (BB gu gb ga r) p := by
  refine ⟨⟨⟨diag_p h.2.1 hr, fun u v huv => ?_⟩, fun _ _ => trivial⟩, ?_⟩
  · rw [diag_eq] at huv
    cases huv
    exact ⟨(search_best h hr).1, (there _ _).1, fun _ _ => trivial⟩
  · unfold f_L_cause f_X4_cause
    rw [diag_eq]
    dsimp only
    rw [(there _ _).2]
    by_cases c : f_X4_nodeAtPlace (BB gu gb ga r) p = -1
    · rw [if_pos c, if_pos c]
    · rw [if_neg c, if_neg c]
theorem try_eq {gn gu gb ga : AA} (h : GI gn gu gb ga) {r : Int32} (hr : M14 r) : f_X0_bestByTrying r (f_X0_plausibleOf gu r) gb = BB gu gb ga r := Bst.one (plOf h.2.1 hr).2.1 (try_spec h hr).2 (search_best h hr).2
theorem q_tried {gn gu gb ga : AA} (h : GI gn gu gb ga) {r : Int32} (hr : M14 r) (p : Int32) : p_L_tried r gu gb p ∧ f_L_tried r gu gb p = if f_X4_nodeAtPlace (BB gu gb ga r) p = -1 then -101 else f_X4_nodeAtPlace (BB gu gb ga r) p := by
  refine ⟨⟨⟨diag_p h.2.1 hr, fun u v huv => ?_⟩, fun _ _ => trivial⟩, ?_⟩
  · rw [diag_eq] at huv
    cases huv
    exact ⟨(try_spec h hr).1, (there _ _).1, fun _ _ => trivial⟩
  · unfold f_L_tried f_X4_causeByTrying
    rw [diag_eq]
    dsimp only
    rw [(there _ _).2, try_eq h hr]
    by_cases c : f_X4_nodeAtPlace (BB gu gb ga r) p = -1
    · rw [if_pos c, if_pos c]
    · rw [if_neg c, if_neg c]
theorem q_gcount {gn gu gb ga : AA} (h : GI gn gu gb ga) {r : Int32} (hr : M14 r) : p_X4_greedyCauses r gu ga ∧ ∃ k, k ≤ 14 ∧ f_X4_greedyCauses r gu ga = nI k ∧ Gu gu ga r k = 0 ∧ ∀ s, s < k → Gu gu ga r s ≠ 0 := by
  obtain ⟨p1, k, hk, e1, e2, e3⟩ := gcount h hr
  refine ⟨⟨diag_p h.2.1 hr, fun u v huv => ?_⟩, k, hk, ?_, e2, e3⟩
  · rw [diag_eq] at huv
    cases huv
    exact ⟨p1, trivial⟩
  · unfold f_X4_greedyCauses
    rw [diag_eq]
    exact e1
theorem gat {gn gu gb ga : AA} (h : GI gn gu gb ga) {r : Int32} (hr : M14 r) (a : Int32) : p_X0_greedyAt r (f_X0_plausibleOf gu r) ga a ∧ ((∃ k, k < 14 ∧ a = nI k ∧ f_X0_greedyAt r (f_X0_plausibleOf gu r) ga a = Gn gu ga r k) ∨ ((∀ k, k < 14 → a ≠ nI k) ∧ f_X0_greedyAt r (f_X0_plausibleOf gu r) ga a = -1)) := by
  obtain ⟨p1, p2⟩ := gat_X (a := a) h hr 14 0 15 rfl (by decide) (fun k hk => absurd hk (Nat.not_lt_zero _))
  have e : Gu gu ga r 0 = r := rfl
  rw [nI_0, e] at p1 p2
  refine ⟨p1, ?_⟩
  unfold f_X0_greedyAt
  rcases p2 with ⟨k, -, k1, k2, k3⟩ | q
  · exact Or.inl ⟨k, k1, k2, k3⟩
  · exact Or.inr q
theorem q_greedy {gn gu gb ga : AA} (h : GI gn gu gb ga) {r : Int32} (hr : M14 r) (a : Int32) : p_L_greedy r gu ga a ∧ f_L_greedy r gu ga a = if f_X0_greedyAt r (f_X0_plausibleOf gu r) ga a = -1 then -101 else f_X0_greedyAt r (f_X0_plausibleOf gu r) ga a := by
  refine ⟨⟨⟨diag_p h.2.1 hr, fun u v huv => ?_⟩, fun _ _ => trivial⟩, ?_⟩
  · rw [diag_eq] at huv
    cases huv
    exact ⟨(gat h hr a).1, fun _ => trivial, fun _ => trivial⟩
  · unfold f_L_greedy f_X4_greedyCause
    rw [diag_eq]
    dsimp only
    by_cases c : f_X0_greedyAt r (f_X0_plausibleOf gu r) ga a = -1
    · rw [if_pos c, if_pos c]
    · rw [if_neg c, if_neg c]
theorem q_causeOf {gn gu gb ga : AA} (h : GI gn gu gb ga) {r : Int32} (hr : M14 r) {k : Nat} (hk : k < 14) : p_L_causeOf r gu gb ga (nI k) ∧ f_L_causeOf r gu gb ga (nI k) = if bt r k = true then f_X4_nodeAtPlace (BB gu gb ga r &&& f_X1_explainersOf gb (nI k)) 0 else -1 := by
  refine ⟨⟨fun _ => ⟨fun _ => trivial, fun _ => ⟨diag_p h.2.1 hr, fun u v huv => ?_⟩⟩, fun _ _ => trivial⟩, ?_⟩
  · rw [diag_eq] at huv
    cases huv
    exact ⟨(search_best h hr).1, ⟨in14 hk, trivial⟩, (nap_spec _ _).1, trivial⟩
  · have hh := has4_0 r (n := k) (by omega)
    unfold f_L_causeOf f_X4_causeOf
    rw [chk hk, diag_eq]
    dsimp only
    cases hb : bt r k
    · rw [if_pos (hh.mpr hb), if_neg (by decide)]
    · rw [if_neg (fun c => by rw [hh.mp c] at hb; cases hb), if_pos rfl]
end
section
/-! ===== needs, what depends and heights fit one another ===== -/
theorem Rc_one {N : Nat → Nat → Prop} {i j : Nat} : Rc N i j ↔ N i j ∨ ∃ k, k < 14 ∧ N i k ∧ Rc N k j := by
  constructor
  · rintro ⟨n, hw⟩
    match n, hw with
    | 0, hw => exact Or.inl hw
    | n + 1, ⟨k, hk, h1, h2⟩ => exact Or.inr ⟨k, hk, h1, n, h2⟩
  · rintro (h | ⟨k, hk, h1, n, h2⟩)
    · exact ⟨0, h⟩
    · exact ⟨n + 1, k, hk, h1, h2⟩
theorem Lv.cons {g : AA} (hg : RM g) {i t j : Nat} (hi : i < 14) : Lv g i (t + 1) j ↔ ∃ k, k < 14 ∧ NR g i k ∧ Lv g k t j := by
  match t with
  | 0 =>
    constructor
    · intro h
      exact ⟨j, NR.lt hg hi h, h, rfl⟩
    · rintro ⟨k, _, h1, h2⟩
      have e : j = k := h2
      subst e
      exact h1
  | t + 1 => exact Iff.rfl
theorem Lv.pre {g : AA} {i t j s : Nat} (h : Lv g i t j) (hs : s ≤ t) : ∃ k, Lv g i s k := by
  rcases Nat.lt_or_ge s t with q | q
  · match s, t, h, q with
    | 0, _, _, _ => exact ⟨i, rfl⟩
    | s + 1, t + 1, h, q =>
      obtain ⟨k, _, h2⟩ := Wy.pre (show Wy (NR g) t i j from h) s (by omega)
      exact ⟨k, h2⟩
  · rw [show s = t by omega]; exact ⟨j, h⟩
/-- the greatest height of the first j of those needed, and 1 -/
def HM (g : AA) (a j m : Nat) : Prop := (∀ k, k < j → NR g a k → Hh g k + 1 ≤ m) ∧ (m = 0 ∨ ∃ k, k < j ∧ NR g a k ∧ m = Hh g k + 1)
theorem HM.all {g : AA} (hg : RM g) (hac : Ac (NR g)) {a m : Nat} (ha : a < 14) (h : HM g a 14 m) : m = Hh g a := by
  have top : ∀ j, ¬ Lv g a (m + 1) j := fun j hj => by
    obtain ⟨k, hk, h1, h2⟩ := (Lv.cons hg ha).mp hj
    obtain ⟨-, -, -, -, h3⟩ := q_height hg hac hk
    obtain ⟨x, hx⟩ := h2.pre (h.1 k hk h1)
    exact h3 x hx
  refine Hg.one ⟨fun s hs => ?_, top⟩ (q_height hg hac ha).2.2.2
  match s, hs with
  | 0, _ => exact ⟨a, rfl⟩
  | s + 1, hs =>
    rcases h.2 with h0 | ⟨k, hk, h1, h2⟩
    · omega
    · obtain ⟨-, -, -, h3, -⟩ := q_height hg hac hk
      obtain ⟨x, hx⟩ := h3 s (by omega)
      exact ⟨x, (Lv.cons hg ha).mpr ⟨k, hk, h1, hx⟩⟩
theorem by_L (gn gb : AA) {a b : Nat} (ha : a < 14) (hb : b < 14) : ∀ (c j n : Nat) (v : Int32), j + c = 14 → c < n → (v = 0 ∨ v = 1) →
    p_L_hangs_L81 gn gb (nI a) (nI b) n v (nI j) ∧ ∃ w, f_L_hangs_L81 gn gb (nI a) (nI b) n v (nI j) = (w, nI 14) ∧ (w = 0 ∨ w = 1) ∧ (w = 0 ↔ v = 0 ∧ ∀ k, j ≤ k → k < 14 → ¬ (bt (gn a) k = true ∧ bt (gb k) b = true)) := by
  intro c
  induction c with
  | zero =>
    intro j n v hj hn hv
    obtain ⟨n, rfl⟩ : ∃ k, n = k + 1 := ⟨n - 1, by omega⟩
    have e : j = 14 := by omega
    subst e
    refine ⟨?_, v, ?_, hv, ⟨fun q => ⟨q, fun k h1 h2 => by omega⟩, fun q => q.1⟩⟩
    · rw [p_L_hangs_L81]; exact ⟨fun _ => trivial, fun h => absurd y14 h⟩
    · rw [f_L_hangs_L81, if_pos y14]
  | succ c ih =>
    intro j n v hj hn hv
    obtain ⟨n, rfl⟩ : ∃ k, n = k + 1 := ⟨n - 1, by omega⟩
    have hj14 : j < 14 := by omega
    obtain ⟨pn, en⟩ := q_needs gn ha hj14
    obtain ⟨pd, ed⟩ := q_depends gb hj14 hb
    obtain ⟨z, hz⟩ : ∃ z : Int32, z = (if v = 0 then (if f_L_needs gn (nI a) (nI j) = 1 then (if f_L_depends gb (nI j) (nI b) = 1 then (1 : Int32) else (0 : Int32)) else (0 : Int32)) else (1 : Int32)) := ⟨_, rfl⟩
    have hz2 : (z = 0 ∨ z = 1) ∧ (z = 0 ↔ v = 0 ∧ ¬ (bt (gn a) j = true ∧ bt (gb j) b = true)) := by
      rw [hz, en, ed]
      rcases hv with e | e
      · rw [e, if_pos rfl]
        cases bt (gn a) j
        · rw [if_neg (fun c => by cases (b01 false).mp c)]
          exact ⟨Or.inl rfl, fun _ => ⟨rfl, fun q => by cases q.1⟩, fun _ => rfl⟩
        · rw [if_pos ((b01 true).mpr rfl)]
          cases bt (gb j) b
          · rw [if_neg (fun c => by cases (b01 false).mp c)]
            exact ⟨Or.inl rfl, fun _ => ⟨rfl, fun q => by cases q.2⟩, fun _ => rfl⟩
          · rw [if_pos ((b01 true).mpr rfl)]
            exact ⟨Or.inr rfl, fun q => absurd q (by decide), fun q => absurd ⟨rfl, rfl⟩ q.2⟩
      · rw [e, if_neg (by decide)]
        exact ⟨Or.inr rfl, fun q => absurd q (by decide), fun q => absurd q.1 (by decide)⟩
    obtain ⟨hz01, hz0⟩ := hz2
    obtain ⟨a1, w, a2, a3, a4⟩ := ih (j + 1) n z (by omega) (by omega) hz01
    refine ⟨?_, w, ?_, a3, ?_⟩
    · rw [p_L_hangs_L81]
      refine ⟨fun h => absurd h (n14 hj14), fun _ => ⟨⟨fun _ => ⟨pn, fun _ => ⟨pd, fun _ => trivial, fun _ => trivial⟩, fun _ => trivial⟩, fun _ => trivial⟩, fun y hy => ?_⟩⟩
      rw [← hz] at hy
      subst hy
      rw [nI_1]
      exact a1
    · rw [f_L_hangs_L81, if_neg (n14 hj14), ← hz, nI_1]
      exact a2
    · rw [a4, hz0]
      constructor
      · rintro ⟨⟨h1, h2⟩, h3⟩
        refine ⟨h1, fun k hk hk2 => ?_⟩
        rcases Nat.lt_or_ge j k with q | q
        · exact h3 k q hk2
        · rw [show k = j by omega]; exact h2
      · rintro ⟨h1, h2⟩
        exact ⟨⟨h1, h2 j (Nat.le_refl _) hj14⟩, fun k hk hk2 => h2 k (by omega) hk2⟩
theorem same01 {x y : Int32} (hx : x = 0 ∨ x = 1) (hy : y = 0 ∨ y = 1) (h : x = 0 ↔ y = 0) : x = y := by
  rcases hx with e | e
  · rw [e, h.mp e]
  · rcases hy with f | f
    · rw [h.mpr f] at e; exact absurd e (by decide)
    · rw [e, f]
theorem b_L {gn gu gb ga : AA} (h : GI gn gu gb ga) {a : Nat} (ha : a < 14) : ∀ (c j n m : Nat), j + c = 14 → c < n → m ≤ 14 → HM gn a j m →
    p_L_hangs_L19 gn gb (nI a) n 1 (nI m) (nI j) ∧ ∃ m', f_L_hangs_L19 gn gb (nI a) n 1 (nI m) (nI j) = (1, nI m', nI 14) ∧ m' ≤ 14 ∧ HM gn a 14 m' := by
  have k1 : ¬ (1 : Int32) = 0 := by decide
  intro c
  induction c with
  | zero =>
    intro j n m hj hn hm hM
    obtain ⟨n, rfl⟩ : ∃ k, n = k + 1 := ⟨n - 1, by omega⟩
    have e : j = 14 := by omega
    subst e
    refine ⟨?_, m, ?_, hm, hM⟩
    · rw [p_L_hangs_L19]; exact ⟨fun _ => trivial, fun h => absurd y14 h⟩
    · rw [f_L_hangs_L19, if_pos y14]
  | succ c ih =>
    intro j n m hj hn hm hM
    obtain ⟨n, rfl⟩ : ∃ k, n = k + 1 := ⟨n - 1, by omega⟩
    have hj14 : j < 14 := by omega
    obtain ⟨pn, en⟩ := q_needs gn ha hj14
    obtain ⟨pd, ed⟩ := q_depends gb ha hj14
    obtain ⟨ph, eh, hh14, -⟩ := q_height h.1 h.2.2.1 hj14
    obtain ⟨y8, h8⟩ : ∃ y : Int32, y = (if f_L_needs gn (nI a) (nI j) = 1 then (1 : Int32) else (0 : Int32)) := ⟨_, rfl⟩
    obtain ⟨y10, h10⟩ : ∃ y : Int32, y = (if y8 = 0 then nI m else (if f_L_height gn (nI j) + 1 ≤ nI m then nI m else f_L_height gn (nI j) + 1)) := ⟨_, rfl⟩
    have h82 : (y8 = 0 ∨ y8 = 1) ∧ (y8 = 0 ↔ ¬ NR gn a j) := by
      unfold NR
      rw [h8, en]
      cases bt (gn a) j
      · rw [if_neg (fun c => by cases (b01 false).mp c)]
        exact ⟨Or.inl rfl, fun _ q => (by cases q), fun _ => rfl⟩
      · rw [if_pos ((b01 true).mpr rfl)]
        exact ⟨Or.inr rfl, fun q => absurd q (by decide), fun q => absurd rfl q⟩
    obtain ⟨h801, h80⟩ := h82
    obtain ⟨m2, e10, m2l, hM2⟩ : ∃ m2, y10 = nI m2 ∧ m2 ≤ 14 ∧ HM gn a (j + 1) m2 := by
      by_cases c8 : y8 = 0
      · refine ⟨m, by rw [h10, if_pos c8], hm, fun k hk hk2 => ?_, ?_⟩
        · rcases Nat.lt_or_ge k j with q | q
          · exact hM.1 k q hk2
          · rw [show k = j by omega] at hk2; exact absurd hk2 (h80.mp c8)
        · rcases hM.2 with q | ⟨k, q1, q2⟩
          · exact Or.inl q
          · exact Or.inr ⟨k, by omega, q2⟩
      · have hNR : NR gn a j := Classical.byContradiction fun q => c8 (h80.mpr q)
        rw [if_neg c8, eh, nI_1] at h10
        by_cases c9 : Hh gn j + 1 ≤ m
        · rw [if_pos ((nI_leI (by omega) (by omega)).mpr c9)] at h10
          refine ⟨m, h10, hm, fun k hk hk2 => ?_, ?_⟩
          · rcases Nat.lt_or_ge k j with q | q
            · exact hM.1 k q hk2
            · rw [show k = j by omega]; exact c9
          · rcases hM.2 with q | ⟨k, q1, q2⟩
            · exact Or.inl q
            · exact Or.inr ⟨k, by omega, q2⟩
        · rw [if_neg (fun q => c9 ((nI_leI (by omega) (by omega)).mp q))] at h10
          refine ⟨Hh gn j + 1, h10, by omega, fun k hk hk2 => ?_, Or.inr ⟨j, by omega, hNR, rfl⟩⟩
          rcases Nat.lt_or_ge k j with q | q
          · have := hM.1 k q hk2; omega
          · rw [show k = j by omega]; exact Nat.le_refl _
    obtain ⟨b1, w, b2, b3, b4⟩ := by_L gn gb ha hj14 14 0 15 y8 rfl (by decide) h801
    rw [nI_0] at b1 b2
    obtain ⟨y24, h24⟩ : ∃ y : Int32, y = (if f_L_depends gb (nI a) (nI j) = 1 then (1 : Int32) else (0 : Int32)) := ⟨_, rfl⟩
    have hw0 : w = 0 ↔ ¬ Rc (NR gn) a j := by
      rw [b4, h80, Rc_one]
      constructor
      · rintro ⟨q1, q2⟩ (q | ⟨k, hk, q3, q4⟩)
        · exact q1 q
        · exact q2 k (Nat.zero_le _) hk ⟨q3, (h.2.2.2.2.2 k j hk hj14).1.mpr q4⟩
      · intro q
        exact ⟨fun z => q (Or.inl z), fun k _ hk z => q (Or.inr ⟨k, hk, z.1, (h.2.2.2.2.2 k j hk hj14).1.mp z.2⟩)⟩
    have hbt : bt (gb a) j = true ↔ Rc (NR gn) a j := (h.2.2.2.2.2 a j ha hj14).1
    have e24 : y24 = w := by
      have h242 : (y24 = 0 ∨ y24 = 1) ∧ (y24 = 0 ↔ ¬ bt (gb a) j = true) := by
        rw [h24, ed]
        cases bt (gb a) j
        · rw [if_neg (fun c => by cases (b01 false).mp c)]
          exact ⟨Or.inl rfl, fun _ q => (by cases q), fun _ => rfl⟩
        · rw [if_pos ((b01 true).mpr rfl)]
          exact ⟨Or.inr rfl, fun q => absurd q (by decide), fun q => absurd rfl q⟩
      exact same01 h242.1 b3 (by rw [h242.2, hw0, hbt])
    have e26 : (if y24 = w then (if nI a = nI j then (if w = 0 then (1 : Int32) else (0 : Int32)) else (1 : Int32)) else (0 : Int32)) = 1 := by
      rw [if_pos e24]
      by_cases c : nI a = nI j
      · have eaj : a = j := (nI_eq (by omega) (by omega)).mp c
        rw [if_pos c, if_pos (hw0.mpr (by rw [← eaj]; exact h.2.2.1 a ha))]
      · rw [if_neg c]
    obtain ⟨a1, m', a2, a3, a4⟩ := ih (j + 1) n m2 (by omega) (by omega) m2l hM2
    refine ⟨?_, m', ?_, a3, a4⟩
    · rw [p_L_hangs_L19]
      refine ⟨fun q => absurd q (n14 hj14), fun _ => ⟨fun _ => trivial, fun _ => ⟨pn, ⟨fun _ => trivial, fun _ => trivial⟩, fun z8 q8 => ?_⟩⟩⟩
      rw [← h8] at q8
      subst q8
      refine ⟨⟨fun _ => trivial, fun _ => ⟨ph, fun _ => trivial, fun _ => ⟨ph, trivial⟩⟩⟩, fun z10 q10 => ⟨b1, fun r1 r2 q15 => ⟨pd, ⟨fun _ => trivial, fun _ => trivial⟩, fun z24 q24 => ⟨⟨fun _ => ⟨fun _ => ⟨fun _ => trivial, fun _ => trivial⟩, fun _ => trivial⟩, fun _ => trivial⟩, fun z26 q26 => ?_⟩⟩⟩⟩
      rw [b2] at q15
      cases q15
      rw [← h24] at q24
      subst q24
      rw [e26] at q26
      subst q26
      rw [← h10, e10] at q10
      subst q10
      rw [nI_1]
      exact a1
    · rw [f_L_hangs_L19, if_neg (n14 hj14), if_neg k1, ← h8]
      dsimp only
      rw [b2]
      dsimp only
      rw [← h24, e26, ← h10, e10, nI_1]
      exact a2
theorem a_L {gn gu gb ga : AA} (h : GI gn gu gb ga) : ∀ (c j n : Nat), j + c = 14 → c < n → p_L_hangs_L4 gn gb n 1 (nI j) ∧ f_L_hangs_L4 gn gb n 1 (nI j) = (1, nI 14) := by
  have k1 : ¬ (1 : Int32) = 0 := by decide
  intro c
  induction c with
  | zero =>
    intro j n hj hn
    obtain ⟨n, rfl⟩ : ∃ k, n = k + 1 := ⟨n - 1, by omega⟩
    have e : j = 14 := by omega
    subst e
    refine ⟨?_, ?_⟩
    · rw [p_L_hangs_L4]; exact ⟨fun _ => trivial, fun h => absurd y14 h⟩
    · rw [f_L_hangs_L4, if_pos y14]
  | succ c ih =>
    intro j n hj hn
    obtain ⟨n, rfl⟩ : ∃ k, n = k + 1 := ⟨n - 1, by omega⟩
    have hj14 : j < 14 := by omega
    obtain ⟨ph, eh, -, -⟩ := q_height h.1 h.2.2.1 hj14
    obtain ⟨b1, m', b2, -, b4⟩ := b_L h hj14 14 0 15 0 rfl (by decide) (by decide) ⟨fun k hk => absurd hk (Nat.not_lt_zero _), Or.inl rfl⟩
    rw [nI_0] at b1 b2
    have em := b4.all h.1 h.2.2.1 hj14
    subst em
    have e30 : (if (1 : Int32) = 0 then (0 : Int32) else (if f_L_height gn (nI j) = nI (Hh gn j) then (1 : Int32) else (0 : Int32))) = 1 := by rw [if_neg k1, if_pos eh]
    obtain ⟨a1, a2⟩ := ih (j + 1) n (by omega) (by omega)
    refine ⟨?_, ?_⟩
    · rw [p_L_hangs_L4]
      refine ⟨fun q => absurd q (n14 hj14), fun _ => ⟨fun _ => trivial, fun _ => ⟨b1, fun r1 r2 r3 q => ?_⟩⟩⟩
      rw [b2] at q
      cases q
      refine ⟨⟨fun _ => trivial, fun _ => ⟨ph, fun _ => trivial, fun _ => trivial⟩⟩, fun z q => ?_⟩
      rw [e30] at q
      subst q
      rw [nI_1]
      exact a1
    · rw [f_L_hangs_L4, if_neg (n14 hj14), if_neg k1, b2]
      dsimp only
      rw [e30, nI_1]
      exact a2
theorem hangs_ok {gn gu gb ga : AA} (h : GI gn gu gb ga) : p_L_hangs gn gb ∧ f_L_hangs gn gb = 1 := by
  obtain ⟨a1, a2⟩ := a_L h 14 0 15 rfl (by decide)
  rw [nI_0] at a1 a2
  constructor
  · refine ⟨a1, fun x y q => ?_⟩
    rw [a2] at q
    cases q
    exact ⟨Or.inr rfl, trivial⟩
  · unfold f_L_hangs
    rw [a2]
end
section
/-! ===== how large, what all explain, whether the best is the best ===== -/
theorem size_S (x : Int32) : ∀ (c j n : Nat), j + c = 14 → c < n → p_L_size_L4 x n (nI (cb x j)) (nI j) ∧ f_L_size_L4 x n (nI (cb x j)) (nI j) = (nI (cn x), nI 14) := by
  intro c
  induction c with
  | zero =>
    intro j n hj hn
    obtain ⟨n, rfl⟩ : ∃ k, n = k + 1 := ⟨n - 1, by omega⟩
    have e : j = 14 := by omega
    subst e
    refine ⟨?_, ?_⟩
    · rw [p_L_size_L4]; exact ⟨fun _ => trivial, fun h => absurd y14 h⟩
    · rw [f_L_size_L4, if_pos y14]; rfl
  | succ c ih =>
    intro j n hj hn
    obtain ⟨n, rfl⟩ : ∃ k, n = k + 1 := ⟨n - 1, by omega⟩
    have hj14 : j < 14 := by omega
    have e : nI (cb x j) + ((x >>> (nI j &&& 31)) &&& 1) = nI (cb x (j + 1)) := by
      rw [shr1 x (by omega), cb]
      cases bt x j
      · exact nI_add _ 0
      · exact nI_add _ 1
    obtain ⟨a1, a2⟩ := ih (j + 1) n (by omega) (by omega)
    refine ⟨?_, ?_⟩
    · rw [p_L_size_L4]
      exact ⟨fun q => absurd q (n14 hj14), fun _ => by rw [e, nI_1]; exact a1⟩
    · rw [f_L_size_L4, if_neg (n14 hj14), e, nI_1]; exact a2
theorem q_size (x : Int32) : p_L_size x ∧ f_L_size x = nI (cn x) := by
  obtain ⟨a1, a2⟩ := size_S x 14 0 15 rfl (by decide)
  have e : nI (cb x 0) = 0 := nI_0
  rw [e, nI_0] at a1 a2
  refine ⟨⟨a1, fun _ _ _ => trivial⟩, ?_⟩
  unfold f_L_size
  rw [a2]
theorem all_S (kl : AA) (a : Int32) : ∀ (c j n : Nat) (v : Int32), j + c = 14 → c < n →
    p_L_all_L4 kl a n v (nI j) ∧ ∃ w, f_L_all_L4 kl a n v (nI j) = (w, nI 14) ∧ ∀ t, (bt w t = true ↔ bt v t = true ∨ ∃ i, j ≤ i ∧ i < 14 ∧ (bt a i = true ∧ bt (kl i) t = true)) := by
  intro c
  induction c with
  | zero =>
    intro j n v hj hn
    obtain ⟨n, rfl⟩ : ∃ k, n = k + 1 := ⟨n - 1, by omega⟩
    have e : j = 14 := by omega
    subst e
    refine ⟨?_, v, ?_, fun t => ⟨Or.inl, ?_⟩⟩
    · rw [p_L_all_L4]; exact ⟨fun _ => trivial, fun h => absurd y14 h⟩
    · rw [f_L_all_L4, if_pos y14]
    · rintro (h | ⟨i, h1, h2, _⟩)
      · exact h
      · omega
  | succ c ih =>
    intro j n v hj hn
    obtain ⟨n, rfl⟩ : ∃ k, n = k + 1 := ⟨n - 1, by omega⟩
    have hj14 : j < 14 := by omega
    have hs := sh1 a (n := j) (by omega)
    obtain ⟨z, hz⟩ : ∃ z : Int32, z = (if (a >>> (nI j &&& 31)) &&& 1 = 1 then kl (nI j).toNatClampNeg else (0 : Int32)) := ⟨_, rfl⟩
    have hzb : ∀ t, bt z t = true ↔ bt a j = true ∧ bt (kl j) t = true := fun t => by
      rw [hz, cl (by omega)]
      by_cases c1 : (a >>> (nI j &&& 31)) &&& 1 = 1
      · rw [if_pos c1]
        exact ⟨fun q => ⟨hs.mp c1, q⟩, fun q => q.2⟩
      · rw [if_neg c1, b_0]
        exact ⟨fun q => (by cases q), fun q => absurd (hs.mpr q.1) c1⟩
    obtain ⟨a1, w, a2, a3⟩ := ih (j + 1) n (v ||| z) (by omega) (by omega)
    refine ⟨?_, w, ?_, fun t => ?_⟩
    · rw [p_L_all_L4]
      refine ⟨fun q => absurd q (n14 hj14), fun _ => ⟨⟨fun _ => ⟨in14 hj14, trivial⟩, fun _ => trivial⟩, fun y q => ?_⟩⟩
      rw [← hz] at q
      subst q
      rw [nI_1]
      exact a1
    · rw [f_L_all_L4, if_neg (n14 hj14), ← hz, nI_1]; exact a2
    · rw [a3 t, in_or (p := fun i => bt a i = true ∧ bt (kl i) t = true) (q := fun _ => True) (j := j), b_or, Bool.or_eq_true, hzb t]
      constructor
      · rintro ((q | q) | q)
        · exact Or.inl q
        · exact Or.inr (Or.inl ⟨hj14, q⟩)
        · exact Or.inr (Or.inr q)
      · rintro (q | q | q)
        · exact Or.inl (Or.inl q)
        · exact Or.inl (Or.inr q.2)
        · exact Or.inr q
theorem q_all (kl : AA) (a : Int32) : p_L_all kl a ∧ ∀ t, (bt (f_L_all kl a) t = true ↔ ∃ i, i < 14 ∧ bt a i = true ∧ bt (kl i) t = true) := by
  obtain ⟨h1, w, h2, h3⟩ := all_S kl a 14 0 15 0 rfl (by decide)
  rw [nI_0] at h1 h2
  refine ⟨⟨h1, fun _ _ _ => trivial⟩, fun t => ?_⟩
  have e : f_L_all kl a = w := by unfold f_L_all; rw [h2]
  rw [e, h3 t, b_0]
  constructor
  · rintro (q | ⟨i, _, h4, h5⟩)
    · cases q
    · exact ⟨i, h4, h5⟩
  · rintro ⟨i, h4, h5⟩
    exact Or.inr ⟨i, Nat.zero_le _, h4, h5⟩
/-- the place below j -/
def km : Nat → Int32
  | 0 => -1
  | j + 1 => nI j
theorem km_1 : ∀ j, nI j + (-1) = km j
  | 0 => by decide +kernel
  | j + 1 => pk_m1 j
theorem low_S (b s : Int32) : ∀ (j n : Nat) (lo : Int32), j ≤ 14 → j < n → p_L_isBest_L99 b s n lo (km j) ∧ ∃ lo', f_L_isBest_L99 b s n lo (km j) = (lo', -1) ∧
    ((∃ k, k < j ∧ ¬ bt s k = bt b k) → ∃ k, k < j ∧ lo' = nI k ∧ ¬ bt s k = bt b k ∧ ∀ i, i < k → bt s i = bt b i) ∧ ((∀ k, k < j → bt s k = bt b k) → lo' = lo) := by
  intro j
  induction j with
  | zero =>
    intro n lo _ hn
    obtain ⟨n, rfl⟩ : ∃ k, n = k + 1 := ⟨n - 1, by omega⟩
    have l : km 0 < 0 := by decide +kernel
    refine ⟨?_, lo, ?_, fun ⟨k, hk, _⟩ => absurd hk (Nat.not_lt_zero _), fun _ => rfl⟩
    · rw [p_L_isBest_L99]; exact ⟨fun _ => trivial, fun q => absurd l q⟩
    · rw [f_L_isBest_L99, if_pos l]; rfl
  | succ j ih =>
    intro n lo hj hn
    obtain ⟨n, rfl⟩ : ∃ k, n = k + 1 := ⟨n - 1, by omega⟩
    have l : ¬ nI j < 0 := nI_pos (by omega)
    have ek : km (j + 1) = nI j := rfl
    rw [ek]
    obtain ⟨z, hz⟩ : ∃ z : Int32, z = (if (s >>> (nI j &&& 31)) &&& 1 = (b >>> (nI j &&& 31)) &&& 1 then lo else nI j) := ⟨_, rfl⟩
    have hc : (s >>> (nI j &&& 31)) &&& 1 = (b >>> (nI j &&& 31)) &&& 1 ↔ bt s j = bt b j := by
      rw [shr1 s (by omega), shr1 b (by omega)]
      cases bt s j <;> cases bt b j <;> decide +kernel
    obtain ⟨a1, lo', a2, a3, a4⟩ := ih n z (by omega) (by omega)
    refine ⟨?_, lo', ?_, ?_, ?_⟩
    · rw [p_L_isBest_L99]
      refine ⟨fun q => absurd q l, fun _ => ⟨⟨fun _ => trivial, fun _ => trivial⟩, fun y q => ?_⟩⟩
      rw [← hz] at q
      subst q
      rw [km_1]
      exact a1
    · rw [f_L_isBest_L99, if_neg l, ← hz, km_1]; exact a2
    · rintro ⟨k, hk, hk2⟩
      by_cases w : ∃ k, k < j ∧ ¬ bt s k = bt b k
      · obtain ⟨x, x1, x2⟩ := a3 w
        exact ⟨x, by omega, x2⟩
      · have hall : ∀ i, i < j → bt s i = bt b i := fun i hi => Classical.byContradiction fun q => w ⟨i, hi, q⟩
        have e : k = j := by
          rcases Nat.lt_or_ge k j with q | q
          · exact absurd (hall k q) hk2
          · omega
        subst e
        exact ⟨k, hk, by rw [a4 hall, hz, if_neg (fun q => hk2 (hc.mp q))], hk2, hall⟩
    · intro hall
      rw [a4 (fun k hk => hall k (by omega)), hz, if_pos (hc.mpr (hall j (Nat.lt_succ_self _)))]
theorem M14.ofN {s : Nat} (hs : s < 16384) : M14 (nI s) := fun i hi => by
  rw [bt_nI (by omega)]
  exact Nat.testBit_lt_two_pow (Nat.lt_of_lt_of_le (show s < 2 ^ 14 from hs) (Nat.pow_le_pow_right (by decide) hi))
/-- what the law's own list of what each node explains says -/
def EE (ga kl : AA) : Prop := ∀ k, k < 14 → kl k = f_X1_explainedBy ga (nI k)
theorem all_EX {gn gu gb ga kl : AA} (h : GI gn gu gb ga) (hE : EE ga kl) {r s : Int32} (hr : M14 r) : (f_L_all kl s &&& r) = r ↔ EX gb r s := by
  have hx : ∀ {k o : Nat}, k < 14 → o < 14 → (bt (kl o) k = true ↔ (o = k ∨ bt (gb k) o = true)) := fun {k o} hk ho => by
    rw [hE o ho, explainedBy_b ho]
    exact or_congr ⟨fun q => q.symm, fun q => q.symm⟩ (h.ba hk ho)
  constructor
  · intro e k hk hb
    have h1 : bt (f_L_all kl s &&& r) k = true := by rw [e]; exact hb
    rw [b_and, Bool.and_eq_true] at h1
    obtain ⟨o, ho, h2, h3⟩ := ((q_all kl s).2 k).mp h1.1
    exact ⟨o, ho, h2, (hx hk ho).mp h3⟩
  · intro q
    refine M14.extT (hr.andR _) hr fun k hk => ?_
    rw [b_and, Bool.and_eq_true]
    refine ⟨fun z => z.2, fun z => ⟨?_, z⟩⟩
    obtain ⟨o, ho, h2, h3⟩ := q k hk z
    exact ((q_all kl s).2 k).mpr ⟨o, ho, h2, (hx hk ho).mpr h3⟩
theorem cnT {x y : Int32} : nI (cn x) < nI (cn y) ↔ cn x < cn y := nI_ltI (by have := cn_le x; omega) (by have := cn_le y; omega)
theorem y16 : (16384 : Int32) ≤ nI 16384 := (nI_leI (a := 16384) (b := 16384) (by decide) (by decide)).mpr (Nat.le_refl _)
theorem n16 {s : Nat} (h : s < 16384) : ¬ (16384 : Int32) ≤ nI s := fun q => by
  have := (nI_leI (a := 16384) (b := s) (by decide) (by omega)).mp q
  omega
theorem best_S {gn gu gb ga kl : AA} (h : GI gn gu gb ga) (hE : EE ga kl) {r p b : Int32} (hr : M14 r) (hp : M14 p) (hB : Bst gb r p b) : ∀ (c s n : Nat), s + c = 16384 → c < n → p_L_isBest_L29 kl p r b n 1 (nI s) ∧ f_L_isBest_L29 kl p r b n 1 (nI s) = (1, nI 16384) := by
  have k1 : ¬ (1 : Int32) = 0 := by decide
  have hbM : M14 b := hB.1.1.M hp
  intro c
  induction c with
  | zero =>
    intro s n hs hn
    obtain ⟨n, rfl⟩ : ∃ k, n = k + 1 := ⟨n - 1, by omega⟩
    have e : s = 16384 := by omega
    subst e
    refine ⟨?_, ?_⟩
    · rw [p_L_isBest_L29]; exact ⟨fun _ => trivial, fun q => absurd y16 q⟩
    · rw [f_L_isBest_L29, if_pos y16]
  | succ c ih =>
    intro s n hs hn
    obtain ⟨n, rfl⟩ : ∃ k, n = k + 1 := ⟨n - 1, by omega⟩
    have hs2 : s < 16384 := by omega
    have l := n16 hs2
    have hsM := M14.ofN hs2
    obtain ⟨a1, a2⟩ := ih (s + 1) n (by omega) (by omega)
    obtain ⟨z1, e1⟩ := q_size (nI s)
    obtain ⟨z2, e2⟩ := q_size b
    obtain ⟨z3, e3⟩ := q_size (nI s &&& r)
    obtain ⟨z4, e4⟩ := q_size (b &&& r)
    obtain ⟨z5, -⟩ := q_all kl (nI s)
    obtain ⟨l1, lo, l2, l3, -⟩ := low_S b (nI s) 14 15 0 (Nat.le_refl _) (by decide)
    have ek : km 14 = (13 : Int32) := rfl
    rw [ek] at l1 l2
    have main : nI s &&& (p ^^^ (-1)) = 0 → ¬ f_L_size b < f_L_size (nI s) → f_L_all kl (nI s) &&& r = r → (if f_L_size (nI s) = f_L_size b then (if f_L_size (nI s &&& r) < f_L_size (b &&& r) then (1 : Int32) else (if f_L_size (nI s &&& r) = f_L_size (b &&& r) then (if nI s = b then (1 : Int32) else (if (b >>> (lo &&& 31)) &&& 1 = 1 then (1 : Int32) else (0 : Int32))) else (0 : Int32))) else (0 : Int32)) = 1 := by
      intro c1 c2 c3
      have hD : Dg gb r p (nI s) := ⟨fun k hk => (sub_iff hsM).mp c1 k (hsM.lt hk) hk, (all_EX h hE hr).mp c3⟩
      have hN := hB.2 _ hD
      rw [e1, e2, cnT] at c2
      unfold Btr at hN
      have f1 : cn (nI s) = cn b := by omega
      rw [e1, e2, if_pos (cnI.mpr f1), e3, e4]
      by_cases f2 : cn (nI s &&& r) < cn (b &&& r)
      · rw [if_pos (cnT.mpr f2)]
      · have f3 : cn (nI s &&& r) = cn (b &&& r) := by omega
        rw [if_neg (fun q => f2 (cnT.mp q)), if_pos (cnI.mpr f3)]
        by_cases f4 : nI s = b
        · rw [if_pos f4]
        · rw [if_neg f4]
          have hd : ∃ k, k < 14 ∧ ¬ bt (nI s) k = bt b k := Classical.byContradiction fun w => f4 (M14.ext hsM hbM fun i hi => Classical.byContradiction fun q => w ⟨i, hi, q⟩)
          obtain ⟨k, k1, k2, k3, k4⟩ := l3 hd
          rw [k2]
          have hx1 : bt (nI s ^^^ b) k = true := by
            rw [b_xor]
            revert k3
            cases bt (nI s) k <;> cases bt b k <;> simp
          have hx2 : ∀ i, i < k → bt (nI s ^^^ b) i = false := fun i hi => by
            rw [b_xor, k4 i hi]
            cases bt b i <;> rfl
          rcases rv_of_diff k1 hx1 hx2 with ⟨g1, g2⟩ | ⟨g1, g2⟩
          · omega
          · have : bt b k = true := by
              revert k3
              rw [g1]
              cases bt b k <;> simp
            rw [if_pos ((sh1 b (by omega)).mpr this)]
    refine ⟨?_, ?_⟩
    · rw [p_L_isBest_L29]
      refine ⟨fun q => absurd q l, fun _ => ⟨fun _ => trivial, fun _ => ⟨fun c1 => ⟨z1, z2, fun _ => by rw [nI_1]; exact a1, fun c2 => ⟨z5, fun c3 => ⟨z3, z4, l1, fun x y q => ?_⟩, fun _ => by rw [nI_1]; exact a1⟩⟩, fun _ => by rw [nI_1]; exact a1⟩⟩⟩
      rw [l2] at q
      cases q
      refine ⟨z1, z2, ⟨fun _ => ⟨fun _ => trivial, fun _ => ⟨fun _ => ⟨fun _ => trivial, fun _ => ⟨fun _ => trivial, fun _ => trivial⟩⟩, fun _ => trivial⟩⟩, fun _ => trivial⟩, fun y q => ?_⟩
      rw [main c1 c2 c3] at q
      subst q
      rw [nI_1]
      exact a1
    · rw [f_L_isBest_L29, if_neg l, if_neg k1]
      by_cases c1 : nI s &&& (p ^^^ (-1)) = 0
      · rw [if_pos c1]
        by_cases c2 : f_L_size b < f_L_size (nI s)
        · rw [if_pos c2, nI_1]; exact a2
        · rw [if_neg c2]
          by_cases c3 : f_L_all kl (nI s) &&& r = r
          · rw [if_pos c3, l2]
            dsimp only
            rw [main c1 c2 c3, nI_1]
            exact a2
          · rw [if_neg c3, nI_1]; exact a2
      · rw [if_neg c1, nI_1]; exact a2
theorem q_isBest {gn gu gb ga kl : AA} (h : GI gn gu gb ga) (hE : EE ga kl) {r p b : Int32} (hr : M14 r) (hp : M14 p) (hB : Bst gb r p b) : p_L_isBest kl p r b ∧ f_L_isBest kl p r b = 1 := by
  have hbM : M14 b := hB.1.1.M hp
  obtain ⟨a1, a2⟩ := best_S h hE hr hp hB 16384 0 16385 (by decide) (by decide)
  rw [nI_0] at a1 a2
  have c1 : b &&& (p ^^^ (-1)) = 0 := (sub_iff hbM).mpr fun t _ ht => hB.1.1 t ht
  have c2 : f_L_all kl b &&& r = r := (all_EX h hE hr).mpr hB.1.2
  have e : (if b &&& (p ^^^ (-1)) = 0 then (if f_L_all kl b &&& r = r then (1 : Int32) else (0 : Int32)) else (0 : Int32)) = 1 := by rw [if_pos c1, if_pos c2]
  constructor
  · refine ⟨⟨fun _ => ⟨(q_all kl b).1, fun _ => trivial, fun _ => trivial⟩, fun _ => trivial⟩, fun y q => ?_⟩
    rw [e] at q
    subst q
    refine ⟨a1, fun x y q => ?_⟩
    rw [a2] at q
    cases q
    exact ⟨Or.inr rfl, trivial⟩
  · unfold f_L_isBest
    rw [e]
    dsimp only
    rw [a2]
end
section
/-! ===== the law's own lists: what each node explains, who is raised, who is plausible ===== -/
theorem expl_S (gb : AA) {k : Nat} (hk : k < 14) : ∀ (c j n : Nat) (kl : AA), j + c = 14 → c < n →
    p_L_causes_L58 gb (nI k) n (nI j) kl ∧ ∃ kl', f_L_causes_L58 gb (nI k) n (nI j) kl = (nI 14, kl') ∧ (∀ i, ¬ i = k → kl' i = kl i) ∧ ∀ t, (bt (kl' k) t = true ↔ bt (kl k) t = true ∨ (j ≤ t ∧ t < 14 ∧ bt (gb t) k = true)) := by
  intro c
  induction c with
  | zero =>
    intro j n kl hj hn
    obtain ⟨n, rfl⟩ : ∃ k, n = k + 1 := ⟨n - 1, by omega⟩
    have e : j = 14 := by omega
    subst e
    refine ⟨?_, kl, ?_, fun _ _ => rfl, fun t => ⟨Or.inl, ?_⟩⟩
    · rw [p_L_causes_L58]; exact ⟨fun _ => trivial, fun h => absurd y14 h⟩
    · rw [f_L_causes_L58, if_pos y14]
    · rintro (q | ⟨q1, q2, _⟩)
      · exact q
      · omega
  | succ c ih =>
    intro j n kl hj hn
    obtain ⟨n, rfl⟩ : ∃ k, n = k + 1 := ⟨n - 1, by omega⟩
    have hj14 : j < 14 := by omega
    obtain ⟨pd, ed⟩ := q_depends gb hj14 hk
    obtain ⟨z, hz⟩ : ∃ z : Int32, z = (if f_L_depends gb (nI j) (nI k) = 1 then 1 <<< (nI j &&& 31) else (0 : Int32)) := ⟨_, rfl⟩
    have hzb : ∀ t, bt z t = true ↔ t = j ∧ bt (gb j) k = true := fun t => by
      rw [hz, ed]
      cases hb : bt (gb j) k
      · rw [if_neg (fun c => by cases (b01 false).mp c), b_0]
        exact ⟨fun q => (by cases q), fun q => by cases q.2⟩
      · rw [if_pos ((b01 true).mpr rfl), one_eq, only_bT hj14]
        exact ⟨fun q => ⟨q, rfl⟩, fun q => q.1⟩
    obtain ⟨a1, kl', a2, a3, a4⟩ := ih (j + 1) n (upd kl k (kl k ||| z)) (by omega) (by omega)
    refine ⟨?_, kl', ?_, fun i hi => ?_, fun t => ?_⟩
    · rw [p_L_causes_L58]
      refine ⟨fun q => absurd q (n14 hj14), fun _ => ⟨in14 hk, pd, ⟨fun _ => trivial, fun _ => trivial⟩, fun y q => ⟨in14 hk, ?_⟩⟩⟩
      rw [← hz] at q
      subst q
      rw [nI_1, cl (by omega)]
      exact a1
    · rw [f_L_causes_L58, if_neg (n14 hj14), ← hz, nI_1, cl (by omega)]
      exact a2
    · rw [a3 i hi, upd_at, if_neg hi]
    · rw [a4 t, upd_at, if_pos rfl, b_or, Bool.or_eq_true, hzb t]
      constructor
      · rintro ((q | ⟨q1, q2⟩) | ⟨q1, q2, q3⟩)
        · exact Or.inl q
        · rw [q1]; exact Or.inr ⟨Nat.le_refl _, hj14, q2⟩
        · exact Or.inr ⟨by omega, q2, q3⟩
      · rintro (q | ⟨q1, q2, q3⟩)
        · exact Or.inl (Or.inl q)
        · rcases Nat.lt_or_ge j t with w | w
          · exact Or.inr ⟨w, q2, q3⟩
          · have e : t = j := by omega
            rw [e] at q3
            exact Or.inl (Or.inr ⟨e, q3⟩)
theorem expl_one {gn gu gb ga : AA} (h : GI gn gu gb ga) {k : Nat} (hk : k < 14) (kl : AA) : p_L_causes_L58 gb (nI k) 15 0 (upd kl k (1 <<< (nI k &&& 31))) ∧ ∃ kl', f_L_causes_L58 gb (nI k) 15 0 (upd kl k (1 <<< (nI k &&& 31))) = (nI 14, kl') ∧ (∀ i, ¬ i = k → kl' i = kl i) ∧ kl' k = f_X1_explainedBy ga (nI k) := by
  obtain ⟨a1, kl', a2, a3, a4⟩ := expl_S gb hk 14 0 15 (upd kl k (1 <<< (nI k &&& 31))) rfl (by decide)
  rw [nI_0] at a1 a2
  refine ⟨a1, kl', a2, fun i hi => by rw [a3 i hi, upd_at, if_neg hi], ?_⟩
  have hb : ∀ t, bt (kl' k) t = true ↔ t = k ∨ (t < 14 ∧ bt (gb t) k = true) := fun t => by
    rw [a4 t, upd_at, if_pos rfl, one_eq, only_bT hk]
    exact or_congr Iff.rfl ⟨fun q => q.2, fun q => ⟨Nat.zero_le _, q⟩⟩
  have hM : M14 (kl' k) := fun i hi => by
    cases hc : bt (kl' k) i
    · rfl
    · rcases (hb i).mp hc with q | q
      · omega
      · omega
  refine M14.extT hM (explainedBy_M h hk) fun t ht => ?_
  rw [hb t, explainedBy_b hk]
  exact or_congr Iff.rfl ⟨fun q => (h.ba ht hk).mpr q.2, fun q => ⟨ht, (h.ba ht hk).mp q⟩⟩
/-- a node has a ticket just if it is raised -/
def TR (r : Int32) (tn : AA) : Prop := ∀ k, k < 14 → (bt r k = true ↔ ¬ tn k ≤ 0)
theorem list_S {gn gu gb ga : AA} (h : GI gn gu gb ga) {r : Int32} {tn : AA} (hT : TR r tn) : ∀ (c j n : Nat) (v : Int32) (kl : AA), j + c = 14 → c < n → (∀ t, bt v t = true ↔ t < j ∧ bt r t = true) → (∀ k, k < j → kl k = f_X1_explainedBy ga (nI k)) →
    p_L_causes_L15 gb tn n v (nI j) kl ∧ ∃ v' kl', f_L_causes_L15 gb tn n v (nI j) kl = (v', nI 14, kl') ∧ (∀ t, bt v' t = true ↔ t < 14 ∧ bt r t = true) ∧ EE ga kl' := by
  intro c
  induction c with
  | zero =>
    intro j n v kl hj hn hv hk
    obtain ⟨n, rfl⟩ : ∃ k, n = k + 1 := ⟨n - 1, by omega⟩
    have e : j = 14 := by omega
    subst e
    refine ⟨?_, v, kl, ?_, hv, hk⟩
    · rw [p_L_causes_L15]; exact ⟨fun _ => trivial, fun h => absurd y14 h⟩
    · rw [f_L_causes_L15, if_pos y14]
  | succ c ih =>
    intro j n v kl hj hn hv hk
    obtain ⟨n, rfl⟩ : ∃ k, n = k + 1 := ⟨n - 1, by omega⟩
    have hj14 : j < 14 := by omega
    obtain ⟨pt, et⟩ := q_ticket tn hj14
    obtain ⟨b1, kl2, b2, b3, b4⟩ := expl_one h hj14 kl
    obtain ⟨z, hz⟩ : ∃ z : Int32, z = (if f_L_ticket tn (nI j) ≤ 0 then (0 : Int32) else 1 <<< (nI j &&& 31)) := ⟨_, rfl⟩
    have hzb : ∀ t, bt z t = true ↔ t = j ∧ bt r j = true := fun t => by
      rw [hz, et, hT j hj14]
      by_cases c1 : tn j ≤ 0
      · rw [if_pos c1, b_0]
        exact ⟨fun q => (by cases q), fun q => absurd c1 q.2⟩
      · rw [if_neg c1, one_eq, only_bT hj14]
        exact ⟨fun q => ⟨q, c1⟩, fun q => q.1⟩
    obtain ⟨a1, v', kl', a2, a3, a4⟩ := ih (j + 1) n (v ||| z) kl2 (by omega) (by omega) (fun t => by
      rw [b_or, Bool.or_eq_true, hv t, hzb t]
      constructor
      · rintro (⟨q1, q2⟩ | ⟨q1, q2⟩)
        · exact ⟨by omega, q2⟩
        · rw [q1]; exact ⟨Nat.lt_succ_self _, q2⟩
      · rintro ⟨q1, q2⟩
        rcases Nat.lt_or_ge t j with w | w
        · exact Or.inl ⟨w, q2⟩
        · have e : t = j := by omega
          rw [e] at q2
          exact Or.inr ⟨e, q2⟩) (fun k hk2 => by
      by_cases e : k = j
      · rw [e]; exact b4
      · rw [b3 k e]; exact hk k (by omega))
    refine ⟨?_, v', kl', ?_, a3, a4⟩
    · rw [p_L_causes_L15]
      refine ⟨fun q => absurd q (n14 hj14), fun _ => ⟨pt, ⟨fun _ => trivial, fun _ => trivial⟩, fun y q => ⟨in14 hj14, ?_⟩⟩⟩
      rw [← hz] at q
      subst q
      rw [cl (by omega)]
      refine ⟨b1, fun x y q => ?_⟩
      rw [b2] at q
      cases q
      rw [nI_1]
      exact a1
    · rw [f_L_causes_L15, if_neg (n14 hj14), ← hz, cl (by omega), b2, nI_1]
      exact a2
theorem q_list {gn gu gb ga : AA} (h : GI gn gu gb ga) {r : Int32} (hr : M14 r) {tn : AA} (hT : TR r tn) : p_L_causes_L15 gb tn 15 0 0 (fun _ => 0) ∧ ∃ kl, f_L_causes_L15 gb tn 15 0 0 (fun _ => 0) = (r, nI 14, kl) ∧ EE ga kl := by
  obtain ⟨a1, v, kl, a2, a3, a4⟩ := list_S h hT 14 0 15 0 (fun _ => 0) rfl (by decide) (fun t => by
    rw [b_0]
    exact ⟨fun q => (by cases q), fun q => absurd q.1 (Nat.not_lt_zero _)⟩) (fun k hk => absurd hk (Nat.not_lt_zero _))
  rw [nI_0] at a1 a2
  have e : v = r := M14.extT (fun i hi => by
    cases hb : bt v i
    · rfl
    · have := (a3 i).mp hb; omega) hr fun t ht => by
    rw [a3 t]
    exact ⟨fun q => q.2, fun q => ⟨ht, q⟩⟩
  rw [e] at a2
  exact ⟨a1, kl, a2, a4⟩
theorem above_S (gn : AA) {k : Nat} (hk : k < 14) : ∀ (c j n : Nat) (v : Int32), j + c = 14 → c < n →
    p_L_causes_L125 gn (nI k) n v (nI j) ∧ ∃ w, f_L_causes_L125 gn (nI k) n v (nI j) = (w, nI 14) ∧ ∀ t, (bt w t = true ↔ bt v t = true ∨ (j ≤ t ∧ t < 14 ∧ bt (gn t) k = true)) := by
  intro c
  induction c with
  | zero =>
    intro j n v hj hn
    obtain ⟨n, rfl⟩ : ∃ k, n = k + 1 := ⟨n - 1, by omega⟩
    have e : j = 14 := by omega
    subst e
    refine ⟨?_, v, ?_, fun t => ⟨Or.inl, ?_⟩⟩
    · rw [p_L_causes_L125]; exact ⟨fun _ => trivial, fun h => absurd y14 h⟩
    · rw [f_L_causes_L125, if_pos y14]
    · rintro (q | ⟨q1, q2, _⟩)
      · exact q
      · omega
  | succ c ih =>
    intro j n v hj hn
    obtain ⟨n, rfl⟩ : ∃ k, n = k + 1 := ⟨n - 1, by omega⟩
    have hj14 : j < 14 := by omega
    obtain ⟨pd, ed⟩ := q_needs gn hj14 hk
    obtain ⟨z, hz⟩ : ∃ z : Int32, z = (if f_L_needs gn (nI j) (nI k) = 1 then 1 <<< (nI j &&& 31) else (0 : Int32)) := ⟨_, rfl⟩
    have hzb : ∀ t, bt z t = true ↔ t = j ∧ bt (gn j) k = true := fun t => by
      rw [hz, ed]
      cases hb : bt (gn j) k
      · rw [if_neg (fun c => by cases (b01 false).mp c), b_0]
        exact ⟨fun q => (by cases q), fun q => by cases q.2⟩
      · rw [if_pos ((b01 true).mpr rfl), one_eq, only_bT hj14]
        exact ⟨fun q => ⟨q, rfl⟩, fun q => q.1⟩
    obtain ⟨a1, w, a2, a3⟩ := ih (j + 1) n (v ||| z) (by omega) (by omega)
    refine ⟨?_, w, ?_, fun t => ?_⟩
    · rw [p_L_causes_L125]
      refine ⟨fun q => absurd q (n14 hj14), fun _ => ⟨pd, ⟨fun _ => trivial, fun _ => trivial⟩, fun y q => ?_⟩⟩
      rw [← hz] at q
      subst q
      rw [nI_1]
      exact a1
    · rw [f_L_causes_L125, if_neg (n14 hj14), ← hz, nI_1]
      exact a2
    · rw [a3 t, b_or, Bool.or_eq_true, hzb t]
      constructor
      · rintro ((q | ⟨q1, q2⟩) | ⟨q1, q2, q3⟩)
        · exact Or.inl q
        · rw [q1]; exact Or.inr ⟨Nat.le_refl _, hj14, q2⟩
        · exact Or.inr ⟨by omega, q2, q3⟩
      · rintro (q | ⟨q1, q2, q3⟩)
        · exact Or.inl (Or.inl q)
        · rcases Nat.lt_or_ge j t with w | w
          · exact Or.inr ⟨w, q2, q3⟩
          · have e : t = j := by omega
            rw [e] at q3
            exact Or.inl (Or.inr ⟨e, q3⟩)
theorem q_above {gn gu gb ga : AA} (h : GI gn gu gb ga) {k : Nat} (hk : k < 14) : p_L_causes_L125 gn (nI k) 15 0 0 ∧ f_L_causes_L125 gn (nI k) 15 0 0 = (gu k, nI 14) := by
  obtain ⟨a1, w, a2, a3⟩ := above_S gn hk 14 0 15 0 rfl (by decide)
  rw [nI_0] at a1 a2
  have e : w = gu k := M14.extT (fun i hi => by
    cases hb : bt w i
    · rfl
    · rcases (a3 i).mp hb with q | q
      · rw [b_0] at q; cases q
      · omega) (h.2.1 k hk) fun t ht => by
    rw [a3 t, b_0]
    constructor
    · rintro (q | ⟨-, -, q⟩)
      · cases q
      · exact (h.2.2.2.1 t k ht hk).mpr q
    · intro q
      exact Or.inr ⟨Nat.zero_le _, ht, (h.2.2.2.1 t k ht hk).mp q⟩
  rw [e] at a2
  exact ⟨a1, a2⟩
theorem can_S {gn gu gb ga : AA} (h : GI gn gu gb ga) {r : Int32} (hr : M14 r) : ∀ (c j n : Nat) (v : Int32), j + c = 14 → c < n → (∀ t, bt v t = true ↔ t < j ∧ bt (PP gu r) t = true) →
    p_L_causes_L107 r gn gu r n v 1 (nI j) ∧ ∃ v', f_L_causes_L107 r gn gu r n v 1 (nI j) = (v', 1, nI 14) ∧ ∀ t, bt v' t = true ↔ t < 14 ∧ bt (PP gu r) t = true := by
  have k1 : ¬ (1 : Int32) = 0 := by decide
  intro c
  induction c with
  | zero =>
    intro j n v hj hn hv
    obtain ⟨n, rfl⟩ : ∃ k, n = k + 1 := ⟨n - 1, by omega⟩
    have e : j = 14 := by omega
    subst e
    refine ⟨?_, v, ?_, hv⟩
    · rw [p_L_causes_L107]; exact ⟨fun _ => trivial, fun h => absurd y14 h⟩
    · rw [f_L_causes_L107, if_pos y14]
  | succ c ih =>
    intro j n v hj hn hv
    obtain ⟨n, rfl⟩ : ∃ k, n = k + 1 := ⟨n - 1, by omega⟩
    have hj14 : j < 14 := by omega
    obtain ⟨pa, ea⟩ := q_above h hj14
    obtain ⟨pp, ep⟩ := q_plaus h.2.1 hr hj14
    have hPL := (plOf h.2.1 hr).2.2 j hj14
    have hs := sh1 r (n := j) (by omega)
    have hgM := h.2.1 j hj14
    obtain ⟨z23, h23⟩ : ∃ z : Int32, z = (if (r >>> (nI j &&& 31)) &&& 1 = 1 then (1 : Int32) else (if gu j ≤ 0 then (0 : Int32) else (if gu j &&& (r ^^^ (-1)) = 0 then (1 : Int32) else (0 : Int32)))) := ⟨_, rfl⟩
    have h232 : (z23 = 0 ∨ z23 = 1) ∧ (z23 = 0 ↔ ¬ bt (PP gu r) j = true) := by
      have e : bt (PP gu r) j = true ↔ PL gu r j := hPL
      rw [e, h23]
      unfold PL
      by_cases c1 : (r >>> (nI j &&& 31)) &&& 1 = 1
      · rw [if_pos c1]
        exact ⟨Or.inr rfl, fun q => absurd q (by decide), fun q => absurd (Or.inl (hs.mp c1)) q⟩
      · rw [if_neg c1]
        by_cases c2 : gu j ≤ 0
        · rw [if_pos c2]
          exact ⟨Or.inl rfl, fun _ q => q.elim (fun w => c1 (hs.mpr w)) (fun w => w.1 (hgM.le0.mp c2)), fun _ => rfl⟩
        · rw [if_neg c2]
          by_cases c3 : gu j &&& (r ^^^ (-1)) = 0
          · rw [if_pos c3]
            exact ⟨Or.inr rfl, fun q => absurd q (by decide), fun q => absurd (Or.inr ⟨fun w => c2 (hgM.le0.mpr w), c3⟩) q⟩
          · rw [if_neg c3]
            exact ⟨Or.inl rfl, fun _ q => q.elim (fun w => c1 (hs.mpr w)) (fun w => c3 w.2), fun _ => rfl⟩
    obtain ⟨h01, h00⟩ := h232
    obtain ⟨z27, h27⟩ : ∃ z : Int32, z = (if z23 = 0 then (0 : Int32) else 1 <<< (nI j &&& 31)) := ⟨_, rfl⟩
    have hzb : ∀ t, bt z27 t = true ↔ t = j ∧ bt (PP gu r) j = true := fun t => by
      rw [h27]
      by_cases c1 : z23 = 0
      · rw [if_pos c1, b_0]
        exact ⟨fun q => (by cases q), fun q => absurd q.2 (h00.mp c1)⟩
      · rw [if_neg c1, one_eq, only_bT hj14]
        exact ⟨fun q => ⟨q, Classical.byContradiction fun w => c1 (h00.mpr w)⟩, fun q => q.1⟩
    obtain ⟨z30, h30⟩ : ∃ z : Int32, z = (if f_L_plausible r gu (nI j) = 1 then (1 : Int32) else (0 : Int32)) := ⟨_, rfl⟩
    have e30 : z30 = z23 := by
      have h302 : (z30 = 0 ∨ z30 = 1) ∧ (z30 = 0 ↔ ¬ bt (PP gu r) j = true) := by
        rw [h30, ep]
        cases bt (PP gu r) j
        · rw [if_neg (fun c => by cases (b01 false).mp c)]
          exact ⟨Or.inl rfl, fun _ q => (by cases q), fun _ => rfl⟩
        · rw [if_pos ((b01 true).mpr rfl)]
          exact ⟨Or.inr rfl, fun q => absurd q (by decide), fun q => absurd rfl q⟩
      exact same01 h302.1 h01 (h302.2.trans h00.symm)
    have e32 : (if z30 = z23 then (1 : Int32) else (0 : Int32)) = 1 := if_pos e30
    obtain ⟨a1, v', a2, a3⟩ := ih (j + 1) n (v ||| z27) (by omega) (by omega) (fun t => by
      rw [b_or, Bool.or_eq_true, hv t, hzb t]
      constructor
      · rintro (⟨q1, q2⟩ | ⟨q1, q2⟩)
        · exact ⟨by omega, q2⟩
        · rw [q1]; exact ⟨Nat.lt_succ_self _, q2⟩
      · rintro ⟨q1, q2⟩
        rcases Nat.lt_or_ge t j with w | w
        · exact Or.inl ⟨w, q2⟩
        · have e : t = j := by omega
          rw [e] at q2
          exact Or.inr ⟨e, q2⟩)
    refine ⟨?_, v', ?_, a3⟩
    · rw [p_L_causes_L107]
      refine ⟨fun q => absurd q (n14 hj14), fun _ => ⟨fun _ => trivial, fun _ => ⟨pa, fun x y q => ?_⟩⟩⟩
      rw [ea] at q
      cases q
      refine ⟨⟨fun _ => trivial, fun _ => ⟨fun _ => trivial, fun _ => ⟨fun _ => trivial, fun _ => trivial⟩⟩⟩, fun y23 q23 => ?_⟩
      rw [← h23] at q23
      subst q23
      refine ⟨⟨fun _ => trivial, fun _ => trivial⟩, fun y27 q27 => ⟨pp, ⟨fun _ => trivial, fun _ => trivial⟩, fun y30 q30 => ⟨⟨fun _ => trivial, fun _ => trivial⟩, fun y32 q32 => ?_⟩⟩⟩
      rw [← h30] at q30
      subst q30
      rw [e32] at q32
      subst q32
      rw [← h27] at q27
      subst q27
      rw [nI_1]
      exact a1
    · rw [f_L_causes_L107, if_neg (n14 hj14), if_neg k1, ea]
      dsimp only
      rw [← h23, ← h30, e32, ← h27, nI_1]
      exact a2
theorem q_can {gn gu gb ga : AA} (h : GI gn gu gb ga) {r : Int32} (hr : M14 r) : p_L_causes_L107 r gn gu r 15 0 1 0 ∧ f_L_causes_L107 r gn gu r 15 0 1 0 = (PP gu r, 1, nI 14) := by
  obtain ⟨a1, v, a2, a3⟩ := can_S h hr 14 0 15 0 rfl (by decide) (fun t => by
    rw [b_0]
    exact ⟨fun q => (by cases q), fun q => absurd q.1 (Nat.not_lt_zero _)⟩)
  rw [nI_0] at a1 a2
  have e : v = PP gu r := M14.extT (fun i hi => by
    cases hb : bt v i
    · rfl
    · have := (a3 i).mp hb; omega) (plOf h.2.1 hr).2.1 fun t ht => by
    rw [a3 t]
    exact ⟨fun q => q.2, fun q => ⟨ht, q⟩⟩
  rw [e] at a2
  exact ⟨a1, a2⟩
end
section
/-! ===== the best diagnosis by its places ===== -/
theorem cause_at {B : Int32} {k : Nat} (hk : k < cn B) : ∃ x, x < 14 ∧ bt B x = true ∧ cb B x = k ∧ f_X4_nodeAtPlace B (nI k) = nI x := by
  have hc := cn_le B
  rcases (nap_spec B (nI k)).2 with ⟨x, h1, h2, h3, h4⟩ | ⟨h1, h2⟩
  · have hb := cb_le B x
    exact ⟨x, h1, h2, ((nI_eq (by omega) (by omega)).mp h3).symm, h4⟩
  · obtain ⟨x, h3, h4, h5⟩ := cb_kth (x := B) (c := k) (n := 14) hk
    exact absurd (by rw [h5]) (h1 x h3 h4)
def LaS (B : Int32) (k : Nat) (last : Int32) : Prop := (k = 0 ∧ last = -1) ∨ ∃ x, x < 14 ∧ bt B x = true ∧ cb B x + 1 = k ∧ last = nI x
theorem nI_nlem1 {k : Nat} (hk : k < 14) : ¬ nI k ≤ -1 := (by decide +kernel : ∀ k, k < 14 → ¬ nI k ≤ -1) k hk
theorem causes_S {gn gu gb ga : AA} (h : GI gn gu gb ga) {r : Int32} (hr : M14 r) : ∀ (c k n : Nat) (v last : Int32), k + c = cn (BB gu gb ga r) → c < n → (∀ t, bt v t = true ↔ bt (BB gu gb ga r) t = true ∧ cb (BB gu gb ga r) t < k) → LaS (BB gu gb ga r) k last →
    p_L_causes_L252 r gu gb ga n 1 v last (nI k) ∧ ∃ l', f_L_causes_L252 r gu gb ga n 1 v last (nI k) = (1, BB gu gb ga r, l', nI (cn (BB gu gb ga r))) := by
  have k1 : ¬ (1 : Int32) = 0 := by decide
  have hBM := BB_M h hr
  have hcn := cn_le (BB gu gb ga r)
  obtain ⟨pc, ec⟩ := q_causes h hr
  intro c
  induction c with
  | zero =>
    intro k n v last hk hn hv _
    obtain ⟨n, rfl⟩ : ∃ k, n = k + 1 := ⟨n - 1, by omega⟩
    have e : k = cn (BB gu gb ga r) := by omega
    subst e
    have l : f_X4_causes r gu gb ga ≤ nI (cn (BB gu gb ga r)) := by rw [ec]; exact nI_le (Nat.le_refl _) (by omega)
    have ev : v = BB gu gb ga r := b_ext fun i _ => Bool.eq_iff_iff.mpr ⟨fun q => ((hv i).mp q).1, fun q => (hv i).mpr ⟨q, by
      have h1 := cb_strict q (Nat.lt_succ_self i)
      have h2 := cb_mono (BB gu gb ga r) (a := i + 1) (b := 14) (hBM.lt q)
      exact Nat.lt_of_lt_of_le h1 h2⟩⟩
    refine ⟨?_, last, ?_⟩
    · rw [p_L_causes_L252]; exact ⟨pc, fun _ => trivial, fun q => absurd l q⟩
    · rw [f_L_causes_L252, if_pos l, ev]
  | succ c ih =>
    intro k n v last hk hn hv hl
    obtain ⟨n, rfl⟩ : ∃ k, n = k + 1 := ⟨n - 1, by omega⟩
    have hkc : k < cn (BB gu gb ga r) := by omega
    have l : ¬ f_X4_causes r gu gb ga ≤ nI k := by rw [ec]; exact nI_ge hkc (by omega)
    obtain ⟨x, x14, xb, xc, xn⟩ := cause_at hkc
    obtain ⟨p1, e1⟩ := q_cause h hr (nI k)
    obtain ⟨p2, e2⟩ := q_tried h hr (nI k)
    rw [xn, if_neg (nI_neg1 x14)] at e1 e2
    have hlt : ¬ nI x ≤ last := by
      rcases hl with ⟨-, e⟩ | ⟨y, y14, yb, yc, e⟩
      · rw [e]; exact nI_nlem1 x14
      · rw [e]
        intro q
        have q2 := (nI_leI (by omega) (by omega)).mp q
        have := cb_mono (BB gu gb ga r) q2
        omega
    have e39 : (if f_L_cause r gu gb ga (nI k) ≤ last then (0 : Int32) else (if 14 ≤ f_L_cause r gu gb ga (nI k) then (0 : Int32) else (if f_L_tried r gu gb (nI k) = f_L_cause r gu gb ga (nI k) then (1 : Int32) else (0 : Int32)))) = 1 := by
      rw [e1, e2, if_neg hlt, if_neg (n14 x14), if_pos rfl]
    obtain ⟨a1, l', a2⟩ := ih (k + 1) n (v ||| (1 <<< (nI x &&& 31))) (nI x) (by omega) (by omega) (fun t => by
      rw [b_or, Bool.or_eq_true, hv t, one_eq, only_bT x14]
      constructor
      · rintro (⟨q1, q2⟩ | q)
        · exact ⟨q1, by omega⟩
        · rw [q]; exact ⟨xb, by omega⟩
      · rintro ⟨q1, q2⟩
        rcases Nat.lt_or_ge (cb (BB gu gb ga r) t) k with w | w
        · exact Or.inl ⟨q1, w⟩
        · exact Or.inr (cb_inj q1 xb (by omega))) (Or.inr ⟨x, x14, xb, by omega, rfl⟩)
    refine ⟨?_, l', ?_⟩
    · rw [p_L_causes_L252]
      refine ⟨pc, fun q => absurd q l, fun _ => ⟨fun _ => trivial, fun _ => ⟨p1, ⟨fun _ => trivial, fun _ => ⟨fun _ => trivial, fun _ => ⟨p2, fun _ => trivial, fun _ => trivial⟩⟩⟩, fun y q => ?_⟩⟩⟩
      rw [e39] at q
      subst q
      rw [e1, nI_1]
      exact a1
    · rw [f_L_causes_L252, if_neg l, if_neg k1, e39]
      dsimp only
      rw [e1, nI_1]
      exact a2
theorem q_causesL {gn gu gb ga : AA} (h : GI gn gu gb ga) {r : Int32} (hr : M14 r) : p_L_causes_L252 r gu gb ga 15 1 0 (-1) 0 ∧ ∃ l', f_L_causes_L252 r gu gb ga 15 1 0 (-1) 0 = (1, BB gu gb ga r, l', nI (cn (BB gu gb ga r))) := by
  have hcn := cn_le (BB gu gb ga r)
  have a := causes_S h hr (cn (BB gu gb ga r)) 0 15 0 (-1) (Nat.zero_add _) (by omega) (fun t => by
    rw [b_0]
    exact ⟨fun q => (by cases q), fun q => absurd q.2 (Nat.not_lt_zero _)⟩) (Or.inl ⟨rfl, rfl⟩)
  rw [nI_0] at a
  exact a
/-! ===== the greedy diagnosis ===== -/
theorem gk_val {gn gu gb ga kl : AA} (h : GI gn gu gb ga) (hE : EE ga kl) (p u : Int32) {j : Nat} (hj : j < 14) : (if (p >>> (nI j &&& 31)) &&& 1 = 1 then f_L_size (kl (nI j).toNatClampNeg &&& u) else (0 : Int32)) = nI (Gk p ga u j) := by
  have hs := sh1 p (n := j) (by omega)
  rw [cl (by omega), hE j hj, (q_size _).2]
  unfold Gk
  by_cases c : (p >>> (nI j &&& 31)) &&& 1 = 1
  · rw [if_pos c, if_pos (hs.mp c)]
  · rw [if_neg c, if_neg (fun q => c (hs.mpr q))]; rfl
theorem tie_S {gn gu gb ga kl : AA} (h : GI gn gu gb ga) {r : Int32} (hE : EE ga kl) {p u : Int32} {a : Int32} {g : Nat} (hg : g < 14) (hpg : bt p g = true) (hgr : f_L_greedy r gu ga a = nI g) (hb : ∀ k, k < 14 → Gk p ga u k ≤ Gk p ga u g ∧ (Gk p ga u k = Gk p ga u g → Bs r g k)) : ∀ (c j n : Nat), j + c = 14 → c < n →
    p_L_causes_L451 r gu ga r kl p u a n 1 (nI j) ∧ f_L_causes_L451 r gu ga r kl p u a n 1 (nI j) = (1, nI 14) := by
  have k1 : ¬ (1 : Int32) = 0 := by decide
  have yg : f_L_size (kl g &&& u) = nI (Gk p ga u g) := by
    rw [hE g hg, (q_size _).2]
    unfold Gk
    rw [if_pos hpg]
  intro c
  induction c with
  | zero =>
    intro j n hj hn
    obtain ⟨n, rfl⟩ : ∃ k, n = k + 1 := ⟨n - 1, by omega⟩
    have e : j = 14 := by omega
    subst e
    refine ⟨?_, ?_⟩
    · rw [p_L_causes_L451]; exact ⟨fun _ => trivial, fun h => absurd y14 h⟩
    · rw [f_L_causes_L451, if_pos y14]
  | succ c ih =>
    intro j n hj hn
    obtain ⟨n, rfl⟩ : ∃ k, n = k + 1 := ⟨n - 1, by omega⟩
    have hj14 : j < 14 := by omega
    have e69 := gk_val h hE p u hj14
    have l1 := Gk_le p ga u j
    have l2 := Gk_le p ga u g
    have s1 := sh1 r (n := g) (by omega)
    have s2 := sh1 r (n := j) (by omega)
    obtain ⟨z76, h76⟩ : ∃ z : Int32, z = (if (r >>> (nI g &&& 31)) &&& 1 = 1 then (1 : Int32) else (0 : Int32)) := ⟨_, rfl⟩
    obtain ⟨z78, h78⟩ : ∃ z : Int32, z = (if (r >>> (nI j &&& 31)) &&& 1 = 1 then (1 : Int32) else (0 : Int32)) := ⟨_, rfl⟩
    have f76 : z76 = if bt r g = true then 1 else 0 := by
      rw [h76]
      by_cases q : bt r g = true
      · rw [if_pos (s1.mpr q), if_pos q]
      · rw [if_neg (fun w => q (s1.mp w)), if_neg q]
    have f78 : z78 = if bt r j = true then 1 else 0 := by
      rw [h78]
      by_cases q : bt r j = true
      · rw [if_pos (s2.mpr q), if_pos q]
      · rw [if_neg (fun w => q (s2.mp w)), if_neg q]
    have e80 : (if nI (Gk p ga u j) < nI (Gk p ga u g) then (1 : Int32) else (if nI (Gk p ga u j) = nI (Gk p ga u g) then (if z76 = 0 then (if z76 = z78 then (if nI j < nI g then (0 : Int32) else (1 : Int32)) else (0 : Int32)) else (if z78 = 0 then (1 : Int32) else (if z76 = z78 then (if nI j < nI g then (0 : Int32) else (1 : Int32)) else (0 : Int32)))) else (0 : Int32))) = 1 := by
      obtain ⟨b1, b2⟩ := hb j hj14
      obtain ⟨i1, i2, -⟩ := gI l1 l2
      by_cases c1 : Gk p ga u j < Gk p ga u g
      · rw [if_pos (i1.mpr c1)]
      · have c2 : Gk p ga u j = Gk p ga u g := by omega
        rw [if_neg (fun q => c1 (i1.mp q)), if_pos (i2.mpr c2)]
        rcases b2 c2 with ⟨d1, d2⟩ | ⟨d1, d2⟩
        · have g1 : z76 = 1 := by rw [f76, if_pos d1]
          have g2 : z78 = 0 := by rw [f78, d2]; exact if_neg (by decide)
          rw [g1, g2, if_neg k1, if_pos rfl]
        · have g1 : z76 = z78 := by rw [f76, f78, d1]
          have g2 : ¬ nI j < nI g := nI_nlt d2 (by omega)
          rw [if_neg g2, if_pos g1, ← g1]
          by_cases d3 : z76 = 0
          · rw [if_pos d3]
          · rw [if_neg d3, if_neg d3]
    obtain ⟨a1, a2⟩ := ih (j + 1) n (by omega) (by omega)
    refine ⟨?_, ?_⟩
    · rw [p_L_causes_L451]
      refine ⟨fun q => absurd q (n14 hj14), fun _ => ⟨fun _ => trivial, fun _ => ⟨⟨fun _ => ⟨in14 hj14, (q_size _).1, trivial⟩, fun _ => trivial⟩, fun y69 q69 => ?_⟩⟩⟩
      rw [e69] at q69
      subst q69
      rw [hgr, cl (by omega)]
      refine ⟨in14 hg, (q_size _).1, fun y75 q75 => ?_⟩
      rw [yg] at q75
      subst q75
      refine ⟨⟨fun _ => trivial, fun _ => trivial⟩, fun y76 q76 => ⟨⟨fun _ => trivial, fun _ => trivial⟩, fun y78 q78 => ?_⟩⟩
      rw [← h76] at q76
      subst q76
      rw [← h78] at q78
      subst q78
      refine ⟨⟨fun _ => trivial, fun _ => ⟨fun _ => ⟨fun _ => ⟨fun _ => ⟨fun _ => trivial, fun _ => trivial⟩, fun _ => trivial⟩, fun _ => ⟨fun _ => trivial, fun _ => ⟨fun _ => ⟨fun _ => trivial, fun _ => trivial⟩, fun _ => trivial⟩⟩⟩, fun _ => trivial⟩⟩, fun y80 q80 => ?_⟩
      rw [e80] at q80
      subst q80
      rw [nI_1]
      exact a1
    · rw [f_L_causes_L451, if_neg (n14 hj14), if_neg k1, e69, hgr, cl (by omega), yg, ← h76, ← h78]
      dsimp only
      rw [e80, nI_1]
      exact a2
theorem greedy_at {gn gu gb ga : AA} (h : GI gn gu gb ga) {r : Int32} (hr : M14 r) {t g : Nat} (ht : t < 14) (hg : g < 14) (hne : Gu gu ga r t ≠ 0) (he : f_X0_greedyNext r (f_X0_plausibleOf gu r) ga (Gu gu ga r t) = nI g) : f_L_greedy r gu ga (nI t) = nI g := by
  have e : f_X0_greedyAt r (f_X0_plausibleOf gu r) ga (nI t) = nI g := by
    rcases (gat h hr (nI t)).2 with ⟨k, k1, k2, k3⟩ | ⟨k1, -⟩
    · have ek : t = k := (nI_eq (by omega) (by omega)).mp k2
      rw [k3, ← ek]
      unfold Gn
      rw [if_neg hne, he]
    · exact absurd rfl (k1 t ht)
  rw [(q_greedy h hr _).2, e, if_neg (nI_neg1 hg)]
theorem greedy_S {gn gu gb ga kl : AA} (h : GI gn gu gb ga) {r : Int32} (hr : M14 r) (hE : EE ga kl) {K : Nat} (hK : K ≤ 14) (eK : f_X4_greedyCauses r gu ga = nI K) (hz : Gu gu ga r K = 0) (hnz : ∀ s, s < K → Gu gu ga r s ≠ 0) : ∀ (c t n : Nat), t + c = K → c < n →
    p_L_causes_L396 r gu ga r kl (PP gu r) n 1 (Gu gu ga r t) (nI t) ∧ ∃ z, f_L_causes_L396 r gu ga r kl (PP gu r) n 1 (Gu gu ga r t) (nI t) = (1, z, nI K) ∧ z = 0 := by
  have k1 : ¬ (1 : Int32) = 0 := by decide
  intro c
  induction c with
  | zero =>
    intro t n ht hn
    obtain ⟨n, rfl⟩ : ∃ k, n = k + 1 := ⟨n - 1, by omega⟩
    have e : t = K := by omega
    subst e
    have l : f_X4_greedyCauses r gu ga ≤ nI t := by rw [eK]; exact nI_le (Nat.le_refl _) (by omega)
    refine ⟨?_, Gu gu ga r t, ?_, hz⟩
    · rw [p_L_causes_L396]; exact ⟨fun _ => trivial, fun q => absurd l q⟩
    · rw [f_L_causes_L396, if_pos l]
  | succ c ih =>
    intro t n ht hn
    obtain ⟨n, rfl⟩ : ∃ k, n = k + 1 := ⟨n - 1, by omega⟩
    have htK : t < K := by omega
    have l : ¬ f_X4_greedyCauses r gu ga ≤ nI t := by rw [eK]; exact nI_ge htK (by omega)
    obtain ⟨-, g, hg, e1, hG, hpg, ⟨x, x14, x1, x2⟩, hb⟩ := Gu_step h hr (hnz t htK)
    have hgr := greedy_at h hr (by omega) hg (hnz t htK) e1
    obtain ⟨b1, b2⟩ := tie_S (u := Gu gu ga r t) (p := PP gu r) h hE hg hpg hgr hb 14 0 15 rfl (by decide)
    rw [nI_0] at b1 b2
    have hne : ¬ kl g &&& Gu gu ga r t = 0 := fun q => by
      have : bt (kl g &&& Gu gu ga r t) x = true := by rw [b_and, hE g hg, x1, x2]; rfl
      rw [q, b_0] at this
      cases this
    have e61 : (if nI g < 0 then (0 : Int32) else (if (PP gu r >>> (nI g &&& 31)) &&& 1 = 1 then (if kl g &&& Gu gu ga r t = 0 then (0 : Int32) else (1 : Int32)) else (0 : Int32))) = 1 := by
      rw [if_neg (nI_pos (by omega)), if_pos ((sh1 _ (by omega)).mpr hpg), if_neg hne]
    have e89 : (if (1 : Int32) = 0 then Gu gu ga r t else kl g ^^^ (-1)) = f_X1_explainedBy ga (nI g) ^^^ (-1) := by rw [if_neg k1, hE g hg]
    obtain ⟨a1, z, a2, a3⟩ := ih (t + 1) n (by omega) (by omega)
    refine ⟨?_, z, ?_, a3⟩
    · rw [p_L_causes_L396]
      refine ⟨fun q => absurd q l, fun _ => ⟨fun _ => trivial, fun _ => ⟨(q_greedy h hr _).1, ?_⟩⟩⟩
      rw [hgr, cl (by omega)]
      refine ⟨⟨fun _ => trivial, fun _ => ⟨fun _ => ⟨in14 hg, fun _ => trivial, fun _ => trivial⟩, fun _ => trivial⟩⟩, fun y61 q61 => ?_⟩
      rw [e61] at q61
      subst q61
      refine ⟨b1, fun x y q => ?_⟩
      rw [b2] at q
      cases q
      refine ⟨⟨fun _ => trivial, fun _ => ⟨in14 hg, trivial⟩⟩, fun y89 q89 => ?_⟩
      rw [e89] at q89
      subst q89
      rw [nI_1, ← hG]
      exact a1
    · rw [f_L_causes_L396, if_neg l, if_neg k1, hgr, cl (by omega), e61]
      dsimp only
      rw [b2]
      dsimp only
      rw [e89, nI_1, ← hG]
      exact a2
/-- what the greedy diagnosis is after t nodes -/
theorem greedy_set {gn gu gb ga : AA} (h : GI gn gu gb ga) {r : Int32} (hr : M14 r) : ∀ t, (∀ s, s < t → Gu gu ga r s ≠ 0) → ∃ S : Int32, cn S = t ∧ Sub S (PP gu r) ∧
    (∀ k, k < 14 → bt r k = true → bt (Gu gu ga r t) k = true ∨ ∃ o, o < 14 ∧ bt S o = true ∧ bt (f_X1_explainedBy ga (nI o)) k = true) ∧ ∀ o, o < 14 → bt S o = true → ∀ k, k < 14 → bt (Gu gu ga r t) k = true → ¬ bt (f_X1_explainedBy ga (nI o)) k = true := by
  intro t
  induction t with
  | zero =>
    intro _
    exact ⟨0, by decide, fun k q => (by rw [b_0] at q; cases q), fun k _ q => Or.inl q, fun o _ q => by rw [b_0] at q; cases q⟩
  | succ t ih =>
    intro hnz
    obtain ⟨S, h1, h2, h3, h4⟩ := ih (fun s hs => hnz s (by omega))
    obtain ⟨-, g, hg, e1, hG, hpg, ⟨x, x14, x1, x2⟩, -⟩ := Gu_step h hr (hnz t (Nat.lt_succ_self _))
    have hgS : bt S g = false := by
      cases hc : bt S g
      · rfl
      · exact absurd x2 (h4 g hg hc x x14 x1)
    have hstep : ∀ k, k < 14 → (bt (Gu gu ga r (t + 1)) k = true ↔ bt (Gu gu ga r t) k = true ∧ ¬ bt (f_X1_explainedBy ga (nI g)) k = true) := fun k hk => by
      rw [hG, b_and, Bool.and_eq_true, not_b _ (by omega), Bool.not_eq_true', Bool.not_eq_true]
    refine ⟨S ||| f_X4_only (nI g), by rw [cn_add hg hgS, h1], fun k q => ?_, fun k hk q => ?_, fun o ho q k hk q2 => ?_⟩
    · rw [b_or, Bool.or_eq_true, only_bT hg] at q
      rcases q with q | q
      · exact h2 k q
      · rw [q]; exact hpg
    · rcases h3 k hk q with w | ⟨o, o1, o2, o3⟩
      · by_cases c : bt (f_X1_explainedBy ga (nI g)) k = true
        · exact Or.inr ⟨g, hg, by rw [b_or, (only_bT hg).mpr rfl, Bool.or_true], c⟩
        · exact Or.inl ((hstep k hk).mpr ⟨w, c⟩)
      · exact Or.inr ⟨o, o1, by rw [b_or, o2]; rfl, o3⟩
    · obtain ⟨q3, q4⟩ := (hstep k hk).mp q2
      rw [b_or, Bool.or_eq_true, only_bT hg] at q
      rcases q with q | q
      · exact h4 o ho q k hk q3
      · rw [q]; exact q4
theorem greedy_many {gn gu gb ga : AA} (h : GI gn gu gb ga) {r : Int32} (hr : M14 r) {K : Nat} (hz : Gu gu ga r K = 0) (hnz : ∀ s, s < K → Gu gu ga r s ≠ 0) : cn (BB gu gb ga r) ≤ K := by
  obtain ⟨S, h1, h2, h3, -⟩ := greedy_set h hr K hnz
  have hD : Dg gb r (PP gu r) S := ⟨h2, fun k hk q => by
    rcases h3 k hk q with w | ⟨o, o1, o2, o3⟩
    · rw [hz, b_0] at w; cases w
    · refine ⟨o, o1, o2, ?_⟩
      rcases (explainedBy_b o1).mp o3 with w | w
      · exact Or.inl w.symm
      · exact Or.inr ((h.ba hk o1).mp w)⟩
  have hN := (search_best h hr).2.2 S hD
  unfold Btr at hN
  show cn (f_X0_bestBySearch r (f_X0_plausibleOf gu r) gb ga) ≤ K
  omega
/-! ===== which node of the best diagnosis explains a raised one ===== -/
theorem due_S (r : Int32) (kl : AA) (B : Int32) {k : Nat} (hk : k < 14) : ∀ (j n : Nat) (du : Int32), j ≤ 14 → j < n → p_L_causes_L682 r kl B (nI k) n du (km j) ∧ ∃ du', f_L_causes_L682 r kl B (nI k) n du (km j) = (du', -1) ∧
    ((∃ c, c < j ∧ (bt B c = true ∧ bt (kl c) k = true ∧ bt r k = true)) → ∃ c, c < j ∧ du' = nI c ∧ (bt B c = true ∧ bt (kl c) k = true ∧ bt r k = true) ∧ ∀ i, i < c → ¬ (bt B i = true ∧ bt (kl i) k = true ∧ bt r k = true)) ∧
    ((∀ c, c < j → ¬ (bt B c = true ∧ bt (kl c) k = true ∧ bt r k = true)) → du' = du) := by
  intro j
  induction j with
  | zero =>
    intro n du _ hn
    obtain ⟨n, rfl⟩ : ∃ k, n = k + 1 := ⟨n - 1, by omega⟩
    have l : km 0 < 0 := by decide +kernel
    refine ⟨?_, du, ?_, fun ⟨c, hc, _⟩ => absurd hc (Nat.not_lt_zero _), fun _ => rfl⟩
    · rw [p_L_causes_L682]; exact ⟨fun _ => trivial, fun q => absurd l q⟩
    · rw [f_L_causes_L682, if_pos l]; rfl
  | succ j ih =>
    intro n du hj hn
    obtain ⟨n, rfl⟩ : ∃ k, n = k + 1 := ⟨n - 1, by omega⟩
    have hj14 : j < 14 := by omega
    have l : ¬ nI j < 0 := nI_pos (by omega)
    have ek : km (j + 1) = nI j := rfl
    rw [ek]
    obtain ⟨z, hz⟩ : ∃ z : Int32, z = (if (B >>> (nI j &&& 31)) &&& 1 = 1 then (if (kl (nI j).toNatClampNeg >>> (nI k &&& 31)) &&& 1 = 1 then (if (r >>> (nI k &&& 31)) &&& 1 = 1 then nI j else du) else du) else du) := ⟨_, rfl⟩
    have s1 := sh1 B (n := j) (by omega)
    have s2 := sh1 (kl j) (n := k) (by omega)
    have s3 := sh1 r (n := k) (by omega)
    have hzv : ((bt B j = true ∧ bt (kl j) k = true ∧ bt r k = true) → z = nI j) ∧ (¬ (bt B j = true ∧ bt (kl j) k = true ∧ bt r k = true) → z = du) := by
      rw [hz, cl (by omega)]
      by_cases c1 : (B >>> (nI j &&& 31)) &&& 1 = 1
      · rw [if_pos c1]
        by_cases c2 : (kl j >>> (nI k &&& 31)) &&& 1 = 1
        · rw [if_pos c2]
          by_cases c3 : (r >>> (nI k &&& 31)) &&& 1 = 1
          · rw [if_pos c3]
            exact ⟨fun _ => rfl, fun q => absurd ⟨s1.mp c1, s2.mp c2, s3.mp c3⟩ q⟩
          · rw [if_neg c3]
            exact ⟨fun q => absurd (s3.mpr q.2.2) c3, fun _ => rfl⟩
        · rw [if_neg c2]
          exact ⟨fun q => absurd (s2.mpr q.2.1) c2, fun _ => rfl⟩
      · rw [if_neg c1]
        exact ⟨fun q => absurd (s1.mpr q.1) c1, fun _ => rfl⟩
    obtain ⟨a1, du', a2, a3, a4⟩ := ih n z (by omega) (by omega)
    refine ⟨?_, du', ?_, ?_, ?_⟩
    · rw [p_L_causes_L682]
      refine ⟨fun q => absurd q l, fun _ => ⟨⟨fun _ => ⟨in14 hj14, fun _ => ⟨fun _ => trivial, fun _ => trivial⟩, fun _ => trivial⟩, fun _ => trivial⟩, fun y q => ?_⟩⟩
      rw [← hz] at q
      subst q
      rw [km_1]
      exact a1
    · rw [f_L_causes_L682, if_neg l, ← hz, km_1]; exact a2
    · rintro ⟨c, hc, hc2⟩
      by_cases w : ∃ c, c < j ∧ (bt B c = true ∧ bt (kl c) k = true ∧ bt r k = true)
      · obtain ⟨x, x1, x2⟩ := a3 w
        exact ⟨x, by omega, x2⟩
      · have hall : ∀ i, i < j → ¬ (bt B i = true ∧ bt (kl i) k = true ∧ bt r k = true) := fun i hi q => w ⟨i, hi, q⟩
        have e : c = j := by
          rcases Nat.lt_or_ge c j with q | q
          · exact absurd hc2 (hall c q)
          · omega
        subst e
        exact ⟨c, hc, by rw [a4 hall, hzv.1 hc2], hc2, hall⟩
    · intro hall
      rw [a4 (fun c hc => hall c (by omega)), hzv.2 (hall j (Nat.lt_succ_self _))]
theorem of_S {gn gu gb ga kl : AA} (h : GI gn gu gb ga) {r : Int32} (hr : M14 r) (hE : EE ga kl) : ∀ (c j n : Nat), j + c = 14 → c < n →
    p_L_causes_L663 r gu gb ga r kl (BB gu gb ga r) n 1 (nI j) ∧ f_L_causes_L663 r gu gb ga r kl (BB gu gb ga r) n 1 (nI j) = (1, nI 14) := by
  have k1 : ¬ (1 : Int32) = 0 := by decide
  intro c
  induction c with
  | zero =>
    intro j n hj hn
    obtain ⟨n, rfl⟩ : ∃ k, n = k + 1 := ⟨n - 1, by omega⟩
    have e : j = 14 := by omega
    subst e
    refine ⟨?_, ?_⟩
    · rw [p_L_causes_L663]; exact ⟨fun _ => trivial, fun h => absurd y14 h⟩
    · rw [f_L_causes_L663, if_pos y14]
  | succ c ih =>
    intro j n hj hn
    obtain ⟨n, rfl⟩ : ∃ k, n = k + 1 := ⟨n - 1, by omega⟩
    have hj14 : j < 14 := by omega
    obtain ⟨p1, e1⟩ := q_causeOf h hr hj14
    obtain ⟨b1, du, b2, b3, b4⟩ := due_S r kl (BB gu gb ga r) hj14 14 15 (-1) (Nat.le_refl _) (by decide)
    have ek : km 14 = (13 : Int32) := rfl
    rw [ek] at b1 b2
    have ed : f_L_causeOf r gu gb ga (nI j) = du := by
      rw [e1]
      by_cases c1 : bt r j = true
      · rw [if_pos c1]
        have hQ : ∀ i, i < 14 → (bt (BB gu gb ga r &&& f_X1_explainersOf gb (nI j)) i = true ↔ (bt (BB gu gb ga r) i = true ∧ bt (kl i) j = true ∧ bt r j = true)) := fun i hi => by
          rw [b_and, Bool.and_eq_true, expl_dual h hj14 hi, hE i hi]
          exact and_congr Iff.rfl ⟨fun q => ⟨q, c1⟩, fun q => q.1⟩
        rcases nap0 (BB gu gb ga r &&& f_X1_explainersOf gb (nI j)) with ⟨x, x1, x2, x3, x4⟩ | ⟨x1, x2⟩
        · obtain ⟨y, y1, y2, y3, y4⟩ := b3 ⟨x, x1, (hQ x x1).mp x2⟩
          have exy : x = y := by
            rcases Nat.lt_trichotomy x y with q | q | q
            · exact absurd ((hQ x x1).mp x2) (y4 x q)
            · exact q
            · have := x3 y q
              rw [(hQ y y1).mpr y3] at this
              cases this
          rw [x4, y2, exy]
        · rw [x2, b4 (fun i hi q => by
            have := x1 i hi
            rw [(hQ i hi).mpr q] at this
            cases this)]
      · rw [if_neg c1, b4 (fun i hi q => c1 q.2.2)]
    have e112 : (if f_L_causeOf r gu gb ga (nI j) = du then (1 : Int32) else (0 : Int32)) = 1 := if_pos ed
    obtain ⟨a1, a2⟩ := ih (j + 1) n (by omega) (by omega)
    refine ⟨?_, ?_⟩
    · rw [p_L_causes_L663]
      refine ⟨fun q => absurd q (n14 hj14), fun _ => ⟨fun _ => trivial, fun _ => ⟨b1, fun x y q => ?_⟩⟩⟩
      rw [b2] at q
      cases q
      refine ⟨p1, ⟨fun _ => trivial, fun _ => trivial⟩, fun y q => ?_⟩
      rw [e112] at q
      subst q
      rw [nI_1]
      exact a1
    · rw [f_L_causes_L663, if_neg (n14 hj14), if_neg k1, b2]
      dsimp only
      rw [e112, nI_1]
      exact a2
end
section
/-! ===== the law's check of the causes ===== -/
theorem causes_ok {gn gu gb ga : AA} (h : GI gn gu gb ga) {r : Int32} (hr : M14 r) {tn : AA} (hT : TR r tn) : p_L_causes r gn gu gb ga tn ∧ f_L_causes r gn gu gb ga tn = 1 := by
  have k1 : ¬ (1 : Int32) = 0 := by decide
  have hcn := cn_le (BB gu gb ga r)
  obtain ⟨pa, kl, ea, hE⟩ := q_list h hr hT
  obtain ⟨pb, eb⟩ := q_can h hr
  obtain ⟨pc, l', ec⟩ := q_causesL h hr
  obtain ⟨pd, ed⟩ := q_causes h hr
  obtain ⟨pe, K, hK, eK, hz, hnz⟩ := q_gcount h hr
  obtain ⟨pf, z0, ef, ez⟩ := greedy_S h hr hE hK eK hz hnz K 0 15 (Nat.zero_add _) (by omega)
  obtain ⟨pg, eg⟩ := of_S h hr hE 14 0 15 rfl (by decide)
  have e0 : Gu gu ga r 0 = r := rfl
  rw [e0] at pf ef
  rw [nI_0] at pf ef pg eg
  obtain ⟨ph, eh⟩ := q_isBest h hE hr (plOf h.2.1 hr).2.1 (search_best h hr).2
  have hmany := greedy_many h hr hz hnz
  have n1 : f_X4_nodeAtPlace (BB gu gb ga r) (nI (cn (BB gu gb ga r))) = -1 := (nap_none _ _).mpr (Or.inr (nI_le (Nat.le_refl _) (by omega)))
  have n2 : f_X4_nodeAtPlace (BB gu gb ga r) (-1) = -1 := (nap_none _ _).mpr (Or.inl (by decide))
  have v1 : f_L_cause r gu gb ga (f_X4_causes r gu gb ga) = -101 := by rw [ed, (q_cause h hr _).2, if_pos n1]
  have v2 : f_L_tried r gu gb (f_X4_causes r gu gb ga) = -101 := by rw [ed, (q_tried h hr _).2, if_pos n1]
  have v3 : f_L_cause r gu gb ga (-1) = -101 := by rw [(q_cause h hr _).2, if_pos n2]
  have m1 : f_X0_greedyAt r (f_X0_plausibleOf gu r) ga (nI K) = -1 := by
    rcases (gat h hr (nI K)).2 with ⟨k, k1, k2, k3⟩ | ⟨-, k2⟩
    · have ek : K = k := (nI_eq (by omega) (by omega)).mp k2
      rw [k3, ← ek]
      unfold Gn
      rw [if_pos hz]
    · exact k2
  have m2 : f_X0_greedyAt r (f_X0_plausibleOf gu r) ga (-1) = -1 := by
    rcases (gat h hr (-1)).2 with ⟨k, k1, k2, -⟩ | ⟨-, k2⟩
    · exact absurd k2.symm (nI_neg1 k1)
    · exact k2
  have v4 : f_L_greedy r gu ga (f_X4_greedyCauses r gu ga) = -101 := by rw [eK, (q_greedy h hr _).2, if_pos m1]
  have v5 : f_L_greedy r gu ga (-1) = -101 := by rw [(q_greedy h hr _).2, if_pos m2]
  have v6 : ¬ f_X4_greedyCauses r gu ga < f_X4_causes r gu gb ga := by rw [eK, ed]; exact nI_nlt hmany (by omega)
  have e44 : (if (1 : Int32) = 0 then (0 : Int32) else (if f_L_cause r gu gb ga (f_X4_causes r gu gb ga) = (-101) then (if f_L_tried r gu gb (f_X4_causes r gu gb ga) = (-101) then (if f_L_cause r gu gb ga ((-1) : Int32) = (-101) then (if f_L_isBest kl (PP gu r) r (BB gu gb ga r) = 0 then (0 : Int32) else (1 : Int32)) else (0 : Int32)) else (0 : Int32)) else (0 : Int32))) = 1 := by
    rw [if_neg k1, if_pos v1, if_pos v2, if_pos v3, eh, if_neg k1]
  have e92 : (if (1 : Int32) = 0 then (0 : Int32) else (if z0 = 0 then (if f_X4_greedyCauses r gu ga < f_X4_causes r gu gb ga then (0 : Int32) else (if f_L_greedy r gu ga (f_X4_greedyCauses r gu ga) = (-101) then (if f_L_greedy r gu ga ((-1) : Int32) = (-101) then (1 : Int32) else (0 : Int32)) else (0 : Int32))) else (0 : Int32))) = 1 := by
    rw [if_neg k1, if_pos ez, if_neg v6, if_pos v4, if_pos v5]
  constructor
  · refine ⟨pa, fun x1 x2 x3 q => ?_⟩
    rw [ea] at q
    cases q
    refine ⟨pb, fun x1 x2 x3 q => ?_⟩
    rw [eb] at q
    cases q
    refine ⟨pc, fun x1 x2 x3 x4 q => ?_⟩
    rw [ec] at q
    cases q
    refine ⟨⟨fun _ => trivial, fun _ => ⟨pd, (q_cause h hr _).1, fun _ => ⟨pd, (q_tried h hr _).1, fun _ => ⟨(q_cause h hr _).1, fun _ => ⟨ph, fun _ => trivial, fun _ => trivial⟩, fun _ => trivial⟩, fun _ => trivial⟩, fun _ => trivial⟩⟩, fun y q => ?_⟩
    rw [e44] at q
    subst q
    refine ⟨pe, pf, fun x1 x2 x3 q => ?_⟩
    rw [ef] at q
    cases q
    refine ⟨⟨fun _ => trivial, fun _ => ⟨fun _ => ⟨pd, fun _ => trivial, fun _ => ⟨(q_greedy h hr _).1, fun _ => ⟨(q_greedy h hr _).1, fun _ => trivial, fun _ => trivial⟩, fun _ => trivial⟩⟩, fun _ => trivial⟩⟩, fun y q => ?_⟩
    rw [e92] at q
    subst q
    refine ⟨pg, fun x1 x2 q => ?_⟩
    rw [eg] at q
    cases q
    exact ⟨Or.inr rfl, trivial⟩
  · unfold f_L_causes
    rw [ea]
    dsimp only
    rw [eb]
    dsimp only
    rw [ec]
    dsimp only
    rw [e44, ef]
    dsimp only
    rw [e92, eg]
end
section
/-! ===== tickets and events, as far as the law asks ===== -/
def TI (T : Nat) (r : Int32) (tn : AA) : Prop := ∀ k, k < 14 → (bt r k = false ∧ tn k = -1) ∨ (bt r k = true ∧ ∃ t, 1 ≤ t ∧ t ≤ T ∧ tn k = nI t)
theorem TI.tr {T : Nat} {r : Int32} {tn : AA} (hT : T ≤ 300) (h : TI T r tn) : TR r tn := fun k hk => by
  rcases h k hk with ⟨a, b⟩ | ⟨a, t, t1, t2, t3⟩
  · rw [a, b]
    exact ⟨fun q => (by cases q), fun q => absurd (by decide) q⟩
  · rw [a, t3]
    exact ⟨fun _ => nI_nle (by omega) (by omega), fun _ => rfl⟩
/-- raised nodes, events, tickets -/
def ST (C : Nat) (xr lc tw : Int32) (tn : AA) : Prop := M14 xr ∧ lc = nI C ∧ ∃ T, tw = nI T ∧ T ≤ C ∧ TI T xr tn
theorem ST.tr {C : Nat} {xr lc tw : Int32} {tn : AA} (hC : C ≤ 300) (h : ST C xr lc tw tn) : TR xr tn := by
  obtain ⟨-, -, T, -, hT, h2⟩ := h
  exact h2.tr (by omega)
theorem set_b {x : Int32} {i k : Nat} (hi : i < 14) : bt (x ||| f_X4_only (nI i)) k = true ↔ bt x k = true ∨ k = i := by rw [b_or, Bool.or_eq_true, only_bT hi]
theorem TI.put {T T' : Nat} {r v : Int32} {tn tn' : AA} {i m : Nat} (hi : i < 14) (h1 : 1 ≤ m) (h2 : m ≤ T') (hv : v = nI m) (h : ∀ k, k < 14 → ¬ k = i → (bt r k = false ∧ tn' k = -1) ∨ (bt r k = true ∧ ∃ t, 1 ≤ t ∧ t ≤ T' ∧ tn' k = nI t)) : TI T' (r ||| f_X4_only (nI i)) (upd tn' i v) := fun k hk => by
  rw [upd_at]
  by_cases e : k = i
  · rw [if_pos e]
    exact Or.inr ⟨(set_b hi).mpr (Or.inr e), m, h1, h2, hv⟩
  · rw [if_neg e]
    rcases h k hk e with ⟨a, b⟩ | ⟨a, b⟩
    · refine Or.inl ⟨?_, b⟩
      cases hc : bt (r ||| f_X4_only (nI i)) k
      · rfl
      · rcases (set_b hi).mp hc with q | q
        · rw [a] at q; cases q
        · exact absurd q e
    · exact Or.inr ⟨(set_b hi).mpr (Or.inl a), b⟩
theorem low7 {T : Nat} {K : Int32} {tn : AA} (hT : T ≤ 300) (hK : ∀ k, k < 14 → bt K k = true → ∃ t, 1 ≤ t ∧ t ≤ T ∧ tn k = nI t) : ∀ (c j n m : Nat), j + c = 14 → c < n → 1 ≤ m → m ≤ T → p_X3_unite_L7 tn K n (nI m) (nI j) ∧ ∃ m', f_X3_unite_L7 tn K n (nI m) (nI j) = (nI m', nI 14) ∧ 1 ≤ m' ∧ m' ≤ T := by
  intro c
  induction c with
  | zero =>
    intro j n m hj hn h1 h2
    obtain ⟨n, rfl⟩ : ∃ k, n = k + 1 := ⟨n - 1, by omega⟩
    have e : j = 14 := by omega
    subst e
    refine ⟨?_, m, ?_, h1, h2⟩
    · rw [p_X3_unite_L7]; exact ⟨fun _ => trivial, fun q => absurd y14 q⟩
    · rw [f_X3_unite_L7, if_pos y14]
  | succ c ih =>
    intro j n m hj hn h1 h2
    obtain ⟨n, rfl⟩ : ∃ k, n = k + 1 := ⟨n - 1, by omega⟩
    have hj14 : j < 14 := by omega
    have hh := has4_0 K (n := j) (by omega)
    cases hb : bt K j
    · obtain ⟨a1, m', a2, a3⟩ := ih (j + 1) n m (by omega) (by omega) h1 h2
      refine ⟨?_, m', ?_, a3⟩
      · rw [p_X3_unite_L7]
        exact ⟨fun q => absurd q (n14 hj14), fun _ => ⟨fun _ => by rw [nI_1]; exact a1, fun q => absurd (hh.mpr hb) q⟩⟩
      · rw [f_X3_unite_L7, if_neg (n14 hj14), if_pos (hh.mpr hb), nI_1]; exact a2
    · have c0 : ¬ f_X4_has K (nI j) = 0 := fun q => by rw [hh.mp q] at hb; cases hb
      obtain ⟨t, t1, t2, t3⟩ := hK j hj14 hb
      obtain ⟨z, hz⟩ : ∃ z : Int32, z = (if tn (nI j).toNatClampNeg < nI m then tn (nI j).toNatClampNeg else nI m) := ⟨_, rfl⟩
      obtain ⟨m2, e2, m21, m22⟩ : ∃ m2, z = nI m2 ∧ 1 ≤ m2 ∧ m2 ≤ T := by
        rw [cl (by omega), t3] at hz
        by_cases q : nI t < nI m
        · rw [if_pos q] at hz; exact ⟨t, hz, t1, t2⟩
        · rw [if_neg q] at hz; exact ⟨m, hz, h1, h2⟩
      obtain ⟨a1, m', a2, a3⟩ := ih (j + 1) n m2 (by omega) (by omega) m21 m22
      refine ⟨?_, m', ?_, a3⟩
      · rw [p_X3_unite_L7]
        refine ⟨fun q => absurd q (n14 hj14), fun _ => ⟨fun q => absurd q c0, fun _ => ⟨in14 hj14, fun y q => ?_⟩⟩⟩
        rw [← hz] at q
        subst q
        rw [e2, nI_1]
        exact a1
      · rw [f_X3_unite_L7, if_neg (n14 hj14), if_neg c0, ← hz, e2, nI_1]; exact a2
theorem join_spec {T : Nat} {r K : Int32} {tn tt : AA} {i : Nat} (hT : T < 300) (h : TI T r tn) (hi : i < 14) (hKM : M14 K) (hK : ∀ k, k < 14 → bt K k = true → bt r k = true) : p_X3_join (nI T) tn tt (nI i) K ∧ ∃ v T' tn' tt', f_X3_join (nI T) tn tt (nI i) K = (v, nI T', tn', tt') ∧ ¬ v ≤ 0 ∧ T' ≤ T + 1 ∧ TI T' (r ||| f_X4_only (nI i)) tn' := by
  have hK2 : ∀ k, k < 14 → bt K k = true → ∃ t, 1 ≤ t ∧ t ≤ T ∧ tn k = nI t := fun k hk hb => by
    rcases h k hk with ⟨a, _⟩ | ⟨_, b⟩
    · rw [hK k hk hb] at a; cases a
    · exact b
  by_cases c : K = 0
  · refine ⟨⟨fun _ => ⟨in14 hi, in14 hi, trivial⟩, fun q => absurd c q⟩, nI (T + 1), T + 1, upd tn i (nI (T + 1)), tt, ?_, nI_nle (by omega) (by omega), Nat.le_refl _, ?_⟩
    · unfold f_X3_join
      rw [if_pos c, cl (by omega), nI_1, upd_at, if_pos rfl]
    · refine TI.put (T := T) hi (Nat.le_add_left 1 T) (Nat.le_refl _) rfl (tn := tn) fun k hk _ => ?_
      rcases h k hk with q | ⟨q, t, t1, t2, t3⟩
      · exact Or.inl q
      · exact Or.inr ⟨q, t, t1, by omega, t3⟩
  · obtain ⟨x, hx, hxb⟩ := (nz_iff hKM).mp c
    obtain ⟨t0, u1, u2, -⟩ := hK2 x hx hxb
    obtain ⟨a1, m, a2, m1, m2⟩ := low7 (by omega) hK2 14 0 15 T rfl (by decide) (by omega) (Nat.le_refl _)
    obtain ⟨b1, tn', tt', b2, b3⟩ := unite_L40 (tn0 := tn) (tt0 := tt) (K := K) (T := T) (m := m) (by omega) m1 m2 hK2 14 0 15 tn tt rfl (by decide) ⟨fun k hk => ⟨fun ⟨t, q, _⟩ => (by obtain ⟨-, -, k, hk, -⟩ := q; omega), fun _ => rfl⟩, fun _ _ => rfl, fun t _ _ => ⟨fun q => (by obtain ⟨-, -, k, hk, -⟩ := q; omega), fun _ => rfl⟩⟩
    rw [nI_0] at a1 a2 b1 b2
    have eu : f_X3_unite (nI T) tn tt K = (nI m, tn', tt') := by
      unfold f_X3_unite
      rw [a2]
      dsimp only
      rw [b2]
    have pu : p_X3_unite (nI T) tn tt K := ⟨a1, fun x y q => by
      rw [a2] at q
      cases q
      exact ⟨b1, fun _ _ _ _ => trivial⟩⟩
    refine ⟨⟨fun q => absurd q c, fun _ => ⟨pu, fun _ _ _ _ => ⟨in14 hi, in14 hi, trivial⟩⟩⟩, nI m, T, upd tn' i (nI m), tt', ?_, nI_nle (by omega) (by omega), by omega, ?_⟩
    · unfold f_X3_join
      rw [if_neg c, eu]
      dsimp only
      rw [cl (by omega), upd_at, if_pos rfl]
    · refine TI.put (T := T) hi m1 m2 rfl (tn := tn) fun k hk _ => ?_
      by_cases w : ∃ t, Pj T m K tn 14 t ∧ tn k = nI t
      · have e := (b3.1 k hk).1 w
        refine Or.inr ⟨?_, m, m1, m2, e⟩
        obtain ⟨t, ⟨-, ⟨q1, q2⟩, -⟩, q3⟩ := w
        rcases h k hk with ⟨_, b⟩ | ⟨b, _⟩
        · rw [q3] at b; exact absurd b (nIn (by omega))
        · exact b
      · rw [(b3.1 k hk).2 w]
        exact h k hk
theorem full0 {C : Nat} (hC : C < 300) : f_X2_isFull (nI C) = 0 := by
  have n1 : nI C < (300 : Int32) := nI_lt (b := 300) hC (by decide)
  unfold f_X2_isFull
  dsimp only
  rw [if_pos n1]
theorem chg {C : Nat} (hC : C < 300) : f_X4_checkChange (nI C) 1 = .inr () := by
  unfold f_X4_checkChange
  rw [if_neg (by decide), if_pos (full0 hC)]
theorem p_add {C : Nat} (hC : C < 300) : p_X2_add (nI C) := ⟨in300 hC, in300 hC, in300 hC, in300 hC, trivial⟩
theorem q_raise_no {xr xt lc tw : Int32} {gb ga lk ln lt ll lr tn tt : AA} {i : Nat} (hi : i < 14) (hb : bt xr i = true) : p_L_raise xr xt gb ga lc lk ln lt ll lr tw tn tt (nI i) ∧ ∃ v, f_L_raise xr xt gb ga lc lk ln lt ll lr tw tn tt (nI i) = (v, xr, lc, lk, ln, lt, ll, lr, tw, tn, tt) ∧ v = -103 := by
  have c0 : ¬ f_X4_has xr (nI i) = 0 := fun q => by rw [(has4_0 xr (n := i) (by omega)).mp q] at hb; cases hb
  have cc : f_X4_checkChange lc 0 = .inl eIS := by unfold f_X4_checkChange; rw [if_pos rfl]
  constructor
  · refine ⟨fun _ => ⟨⟨fun _ => trivial, fun _ => trivial⟩, fun y q => ?_⟩, fun _ _ _ _ _ _ _ _ _ _ _ _ => trivial⟩
    rw [if_neg c0] at q
    subst q
    intro w
    rw [cc] at w
    cases w
  · have e : f_X4_raise xr xt gb ga lc lk ln lt ll lr tw tn tt (nI i) = .inl eIS := by
      unfold f_X4_raise
      rw [chk hi, if_neg c0]
      dsimp only
      rw [cc]
    refine ⟨-103, ?_, rfl⟩
    unfold f_L_raise
    rw [e]
    dsimp only
    rw [if_neg eIS_ne]
theorem q_raise {gn gu gb ga : AA} (h : GI gn gu gb ga) {C : Nat} (hC : C < 300) {xr xt lc tw : Int32} {lk ln lt ll lr tn tt : AA} (hS : ST C xr lc tw tn) {i : Nat} (hi : i < 14) (hb : bt xr i = false) : p_L_raise xr xt gb ga lc lk ln lt ll lr tw tn tt (nI i) ∧
    ∃ v xr' lc' lk' ln' lt' ll' lr' tw' tn' tt', f_L_raise xr xt gb ga lc lk ln lt ll lr tw tn tt (nI i) = (v, xr', lc', lk', ln', lt', ll', lr', tw', tn', tt') ∧ ¬ v ≤ 0 ∧ ST (C + 1) xr' lc' tw' tn' ∧ bt xr' i = true := by
  obtain ⟨hM, rfl, T, rfl, hT, hTI⟩ := hS
  have c0 : f_X4_has xr (nI i) = 0 := (has4_0 xr (n := i) (by omega)).mpr hb
  have hKb : ∀ k, bt ((f_X1_below gb (nI i) ||| f_X1_above ga (nI i)) &&& xr) k = true → bt xr k = true := fun k q => by
    rw [b_and, Bool.and_eq_true] at q
    exact q.2
  obtain ⟨j1, v, T', tn', tt', j2, j3, j4, j5⟩ := join_spec (tt := tt) (K := (f_X1_below gb (nI i) ||| f_X1_above ga (nI i)) &&& xr) (i := i) (by omega) hTI hi (hM.andR _) (fun k _ q => hKb k q)
  constructor
  · refine ⟨fun _ => ⟨⟨fun _ => trivial, fun _ => trivial⟩, fun y q w => ⟨⟨in14 hi, p_add hC, fun _ _ _ _ _ _ => trivial⟩, fun _ _ _ _ _ _ _ => ⟨⟨in14 hi, trivial⟩, ⟨in14 hi, trivial⟩, j1, fun _ _ _ _ _ => trivial⟩⟩⟩, fun _ _ _ _ _ _ _ _ _ _ _ _ => trivial⟩
  · refine ⟨v, xr ||| f_X4_only (nI i), nI (C + 1), upd lk C 0, upd ln C (nI i), upd lt C xt, upd ll C (-1), upd lr i xt, nI T', tn', tt', ?_, j3, ⟨hM.or (only_M hi), rfl, T', rfl, by omega, j5⟩, (set_b hi).mpr (Or.inr rfl)⟩
    have ea : f_X2_addRaise (nI C) lk ln lt ll lr (nI i) xt = (nI (C + 1), upd lk C 0, upd ln C (nI i), upd lt C xt, upd ll C (-1), upd lr i xt) := by
      unfold f_X2_addRaise f_X2_add
      dsimp only
      rw [cl (show C < 2 ^ 31 by omega), cl (show i < 2 ^ 31 by omega), nI_1]
    have e : f_X4_raise xr xt gb ga (nI C) lk ln lt ll lr (nI T) tn tt (nI i) = .inr (v, xr ||| f_X4_only (nI i), nI (C + 1), upd lk C 0, upd ln C (nI i), upd lt C xt, upd ll C (-1), upd lr i xt, nI T', tn', tt') := by
      unfold f_X4_raise
      rw [chk hi, if_pos c0]
      dsimp only
      rw [chg hC]
      dsimp only
      rw [ea]
      dsimp only
      rw [j2]
    unfold f_L_raise
    rw [e]
theorem q_clear {C : Nat} (hC : C < 300) {xr xt lc tw : Int32} {lk ln lt ll lr tn : AA} (hS : ST C xr lc tw tn) {i : Nat} (hi : i < 14) (hb : bt xr i = true) : p_L_clear xr xt lc lk ln lt ll lr tw tn (nI i) ∧
    ∃ v xr' lc' lk' ln' lt' ll' tn', f_L_clear xr xt lc lk ln lt ll lr tw tn (nI i) = (v, xr', lc', lk', ln', lt', ll', tn') ∧ ¬ v < 0 ∧ ST (C + 1) xr' lc' tw tn' ∧ bt xr' i = false ∧ tn' i = -1 := by
  obtain ⟨hM, rfl, T, rfl, hT, hTI⟩ := hS
  have c1 : f_X4_has xr (nI i) = 1 := by rw [has4 xr (by omega), hb]; exact if_pos rfl
  obtain ⟨t, t1, t2, t3⟩ : ∃ t, 1 ≤ t ∧ t ≤ T ∧ tn i = nI t := by
    rcases hTI i hi with ⟨a, _⟩ | ⟨_, b⟩
    · rw [hb] at a; cases a
    · exact b
  have cut : ∀ k, k < 14 → (bt (xr &&& (f_X4_only (nI i) ^^^ (-1))) k = true ↔ bt xr k = true ∧ ¬ k = i) := fun k hk => by
    rw [b_and, not_b _ (by omega), Bool.and_eq_true, Bool.not_eq_true', ← Bool.not_eq_true, only_bT hi]
  constructor
  · exact ⟨fun _ w => ⟨⟨in14 hi, p_add hC, fun _ _ _ _ _ _ => trivial⟩, fun _ _ _ _ _ _ => ⟨⟨in14 hi, in14 hi, size_p _ _ _, trivial⟩, fun _ _ _ => trivial⟩⟩, fun _ _ _ _ _ _ _ _ _ => trivial⟩
  · refine ⟨nI (cnt (upd tn i (-1)) (nI t) 14), xr &&& (f_X4_only (nI i) ^^^ (-1)), nI (C + 1), upd lk C 1, upd ln C (nI i), upd lt C xt, upd ll C (xt - lr i), upd tn i (-1), ?_, nI_pos (by have := cnt_le (upd tn i (-1)) (nI t) 14; omega), ⟨hM.and _, rfl, T, rfl, by omega, fun k hk => ?_⟩, ?_, ?_⟩
    · have ea : f_X2_addClear (nI C) lk ln lt ll lr (nI i) xt = (nI (C + 1), upd lk C 1, upd ln C (nI i), upd lt C xt, upd ll C (xt - lr i)) := by
        unfold f_X2_addClear f_X2_add
        dsimp only
        rw [cl (show C < 2 ^ 31 by omega), cl (show i < 2 ^ 31 by omega), nI_1]
      have el : f_X3_leave (nI T) tn (nI i) = (nI (cnt (upd tn i (-1)) (nI t) 14), upd tn i (-1)) := by
        unfold f_X3_leave
        rw [cl (show i < 2 ^ 31 by omega), t3, size_c _ t1 t2 (by omega)]
      have e : f_X4_clear xr xt (nI C) lk ln lt ll lr (nI T) tn (nI i) = .inr (nI (cnt (upd tn i (-1)) (nI t) 14), xr &&& (f_X4_only (nI i) ^^^ (-1)), nI (C + 1), upd lk C 1, upd ln C (nI i), upd lt C xt, upd ll C (xt - lr i), upd tn i (-1)) := by
        unfold f_X4_clear
        rw [chk hi, c1]
        dsimp only
        rw [chg hC]
        dsimp only
        rw [ea]
        dsimp only
        rw [el]
      unfold f_L_clear
      rw [e]
    · rw [upd_at]
      by_cases c : k = i
      · rw [if_pos c]
        refine Or.inl ⟨?_, rfl⟩
        cases hc : bt (xr &&& (f_X4_only (nI i) ^^^ (-1))) k
        · rfl
        · exact absurd c ((cut k hk).mp hc).2
      · rw [if_neg c]
        rcases hTI k hk with ⟨a, b⟩ | ⟨a, b⟩
        · refine Or.inl ⟨?_, b⟩
          cases hc : bt (xr &&& (f_X4_only (nI i) ^^^ (-1))) k
          · rfl
          · rw [((cut k hk).mp hc).1] at a; cases a
        · exact Or.inr ⟨(cut k hk).mpr ⟨a, c⟩, b⟩
    · cases hc : bt (xr &&& (f_X4_only (nI i) ^^^ (-1))) i
      · rfl
      · exact absurd rfl ((cut i hi).mp hc).2
    · rw [upd_at, if_pos rfl]
end
section
/-! ===== the law's own loop ===== -/
theorem tail_f {A B : Prop} [Decidable A] [Decidable B] {c h : Int32} (hc : c = 1) (hh : h = 1) : (if (1 : Int32) = 0 then (0 : Int32) else (if A then (if B then (1 : Int32) else (if c = 0 then (0 : Int32) else (1 : Int32))) else (if h = 0 then (0 : Int32) else (if B then (1 : Int32) else (if c = 0 then (0 : Int32) else (1 : Int32)))))) = 1 := by
  have k1 : ¬ (1 : Int32) = 0 := by decide
  rw [hc, hh, if_neg k1]
  by_cases a : A
  · rw [if_pos a]
    by_cases b : B
    · rw [if_pos b]
    · rw [if_neg b, if_neg k1]
  · rw [if_neg a, if_neg k1]
    by_cases b : B
    · rw [if_pos b]
    · rw [if_neg b, if_neg k1]
theorem tail_p {J A B C H pc ph : Prop} (hc : pc) (hh : ph) : (J → True) ∧ (¬ J → ((A → ((B → True) ∧ (¬ B → (pc ∧ ((C → True) ∧ (¬ C → True)))))) ∧ (¬ A → (ph ∧ ((H → True) ∧ (¬ H → ((B → True) ∧ (¬ B → (pc ∧ ((C → True) ∧ (¬ C → True))))))))))) :=
  ⟨fun _ => trivial, fun _ => ⟨fun _ => ⟨fun _ => trivial, fun _ => ⟨hc, fun _ => trivial, fun _ => trivial⟩⟩, fun _ => ⟨hh, fun _ => trivial, fun _ => ⟨fun _ => trivial, fun _ => ⟨hc, fun _ => trivial, fun _ => trivial⟩⟩⟩⟩⟩
theorem q_cell {xs : AA} {L : Nat} (hL : L ≤ 260) {i : Nat} (hi : i < 40) : p_L_cell L xs (nI i) ∧ ∃ Y, Y < 2 ^ 31 ∧ f_L_cell L xs (nI i) = nI Y := by
  constructor
  · refine ⟨⟨fun _ => trivial, fun q => ⟨?_, trivial⟩⟩, fun _ _ => trivial⟩
    have : i < L := by
      rcases Nat.lt_or_ge i L with w | w
      · exact w
      · exact absurd (nI_le w (by omega)) q
    exact vp_in_nI this (by omega)
  · unfold f_L_cell
    dsimp only
    exact pk_andE _ (m := 2147483647) 31 (by decide +kernel)
theorem w40 {i : Nat} (h : i < 40) : ¬ (40 : Int32) ≤ nI i := fun q => by
  have := (nI_leI (a := 40) (b := i) (by decide) (by omega)).mp q
  omega
theorem y40 : (40 : Int32) ≤ nI 40 := (nI_leI (a := 40) (b := 40) (by decide) (by decide)).mpr (Nat.le_refl _)
/-- what the loop ends with -/
def FinL (z : Int32 × Int32 × Int32 × Int32 × AA × AA × AA × AA × Int32 × AA × AA × AA × AA × AA × Int32 × AA × AA) : Prop := ∃ (xr' : Int32) (xt' : Int32) (gn' : AA) (gu' : AA) (gb' : AA) (ga' : AA) (lc' : Int32) (lk' : AA) (ln' : AA) (lt' : AA) (ll' : AA) (lr' : AA) (tw' : Int32) (tn' : AA) (tt' : AA), z = (1, nI 40, xr', xt', gn', gu', gb', ga', lc', lk', ln', lt', ll', lr', tw', tn', tt') ∧ GI gn' gu' gb' ga' ∧ M14 xr' ∧ TR xr' tn'
theorem need_val {gn gu gb ga : AA} (hG : GI gn gu gb ga) {a b : Nat} (a14 : a < 14) (b14 : b < 14) : ∃ (r : Int32) (gn' gu' gb' ga' : AA), f_L_need gn gu gb ga (nI a) (nI b) = (r, gn', gu', gb', ga') ∧ GI gn' gu' gb' ga' ∧
    (if (if r < 0 then (0 : Int32) else (1 : Int32)) = (if nI a = nI b then (0 : Int32) else (if f_L_depends gb (nI b) (nI a) = 0 then (1 : Int32) else (0 : Int32))) then (if f_L_needs gn' (nI a) (nI b) = 1 then (1 : Int32) else (if (if nI a = nI b then (0 : Int32) else (if f_L_depends gb (nI b) (nI a) = 0 then (1 : Int32) else (0 : Int32))) = 0 then (1 : Int32) else (0 : Int32))) else (0 : Int32)) = 1 := by
  obtain ⟨-, hnd⟩ := q_need hG a14 b14
  obtain ⟨x, hx⟩ : ∃ x : Int32, x = (if nI a = nI b then (0 : Int32) else (if f_L_depends gb (nI b) (nI a) = 0 then (1 : Int32) else (0 : Int32))) := ⟨_, rfl⟩
  have can : ((a = b ∨ bt (gb b) a = true) → x = 0) ∧ (¬ (a = b ∨ bt (gb b) a = true) → x = 1) := by
    rw [hx, (q_depends gb b14 a14).2]
    by_cases e : a = b
    · rw [if_pos (by rw [e])]
      exact ⟨fun _ => rfl, fun q => absurd (Or.inl e) q⟩
    · rw [if_neg (fun q => e ((nI_eq (by omega) (by omega)).mp q))]
      cases hc : bt (gb b) a
      · rw [if_pos ((b00 false).mpr rfl)]
        exact ⟨fun q => q.elim (fun w => absurd w e) (fun w => by cases w), fun _ => rfl⟩
      · rw [if_neg (fun q => by cases (b00 true).mp q)]
        exact ⟨fun _ => rfl, fun q => absurd (Or.inr rfl) q⟩
  obtain ⟨c1, c2⟩ := can
  rw [← hx]
  rcases hnd with ⟨w, e⟩ | ⟨w, v, gn', gu', gb', ga', e, e2, e3, e4⟩
  · refine ⟨_, gn, gu, gb, ga, e, hG, ?_⟩
    have n1 : (-102 : Int32) < 0 := by decide
    rw [c1 w, if_pos n1, if_pos rfl]
    by_cases q : f_L_needs gn (nI a) (nI b) = 1
    · rw [if_pos q]
    · rw [if_neg q, if_pos rfl]
  · refine ⟨v, gn', gu', gb', ga', e, e3, ?_⟩
    have q : f_L_needs gn' (nI a) (nI b) = 1 := by rw [(q_needs gn' a14 b14).2, e4]; exact if_pos rfl
    rw [c2 w, if_neg e2, if_pos rfl, if_pos q]
theorem law_S {xs : AA} {L : Nat} (hL : L ≤ 260) : ∀ (c i n C : Nat) (xr : Int32) (xt : Int32) (gn : AA) (gu : AA) (gb : AA) (ga : AA) (lc : Int32) (lk : AA) (ln : AA) (lt : AA) (ll : AA) (lr : AA) (tw : Int32) (tn : AA) (tt : AA), i + c = 40 → c < n → C ≤ 3 * i → GI gn gu gb ga → ST C xr lc tw tn →
    p_L_law_L30 xs L n 1 (nI i) xr xt gn gu gb ga lc lk ln lt ll lr tw tn tt ∧ FinL (f_L_law_L30 xs L n 1 (nI i) xr xt gn gu gb ga lc lk ln lt ll lr tw tn tt) := by
  have k1 : ¬ (1 : Int32) = 0 := by decide
  intro c
  induction c with
  | zero =>
    intro i n C xr xt gn gu gb ga lc lk ln lt ll lr tw tn tt hi hn hC hG hS
    obtain ⟨n, rfl⟩ : ∃ k, n = k + 1 := ⟨n - 1, by omega⟩
    have e : i = 40 := by omega
    subst e
    refine ⟨?_, ?_⟩
    · rw [p_L_law_L30]; exact ⟨fun _ => trivial, fun q => absurd y40 q⟩
    · rw [f_L_law_L30, if_pos y40]
      exact ⟨xr, xt, gn, gu, gb, ga, lc, lk, ln, lt, ll, lr, tw, tn, tt, rfl, hG, hS.1, hS.tr (by omega)⟩
  | succ c ih =>
    intro i n C xr xt gn gu gb ga lc lk ln lt ll lr tw tn tt hi hn hC hG hS
    obtain ⟨n, rfl⟩ : ∃ k, n = k + 1 := ⟨n - 1, by omega⟩
    have hi40 : i < 40 := by omega
    have hC2 : C < 300 := by omega
    obtain ⟨pcell, Y, hY, ecell⟩ := q_cell (xs := xs) hL hi40
    have hZ : Y / 8 < 2 ^ 31 := Nat.lt_of_le_of_lt (Nat.div_le_self _ _) hY
    have e8 : nI Y / 8 = nI (Y / 8) := pk_div (d := 8) hY (by decide) (by decide)
    have eM0 : nI Y - nI (Y / 8) * 8 = nI (Y % 8) := by
      have q : nI Y - nI Y / 8 * 8 = nI (Y % 8) := pk_rem (d := 8) hY (by decide) (by decide)
      rw [e8] at q
      exact q
    have eA0 : nI (Y / 8) - nI (Y / 8) / 14 * 14 = nI (Y / 8 % 14) := pk_rem (d := 14) hZ (by decide) (by decide)
    have eT0 : nI (Y / 8) - nI (Y / 8) / 100 * 100 = nI (Y / 8 % 100) := pk_rem (d := 100) hZ (by decide) (by decide)
    have eD : nI (Y / 8) / 14 = nI (Y / 8 / 14) := pk_div (d := 14) hZ (by decide) (by decide)
    have eB0 : nI (Y / 8 / 14) - nI (Y / 8 / 14) / 14 * 14 = nI (Y / 8 / 14 % 14) := pk_rem (d := 14) (Nat.lt_of_le_of_lt (Nat.div_le_self _ _) hZ) (by decide) (by decide)
    obtain ⟨M, eM⟩ : ∃ M, nI Y - nI (Y / 8) * 8 = nI M := ⟨_, eM0⟩
    obtain ⟨a, a14, eA⟩ : ∃ a, a < 14 ∧ nI (Y / 8) - nI (Y / 8) / 14 * 14 = nI a := ⟨_, Nat.mod_lt _ (by decide), eA0⟩
    obtain ⟨b, b14, eB⟩ : ∃ b, b < 14 ∧ nI (Y / 8 / 14) - nI (Y / 8 / 14) / 14 * 14 = nI b := ⟨_, Nat.mod_lt _ (by decide), eB0⟩
    obtain ⟨T, T100, eT⟩ : ∃ T, T < 100 ∧ nI (Y / 8) - nI (Y / 8) / 100 * 100 = nI T := ⟨_, Nat.mod_lt _ (by decide), eT0⟩
    have pnd := (q_need hG a14 b14).1
    obtain ⟨rN, nn, nu, nb, na, eN, GN, vN⟩ := need_val hG a14 b14
    obtain ⟨hpN, hfN⟩ := hangs_ok GN
    obtain ⟨cpN, cfN⟩ := causes_ok GN hS.1 (hS.tr (by omega))
    obtain ⟨iN1, iN2⟩ := ih (i + 1) n C xr xt nn nu nb na lc lk ln lt ll lr tw tn tt (by omega) (by omega) (by omega) GN hS
    obtain ⟨hpO, hfO⟩ := hangs_ok hG
    obtain ⟨cpO, cfO⟩ := causes_ok hG hS.1 (hS.tr (by omega))
    obtain ⟨pR, rn, ru, rb, ra, eR, GR, vR⟩ := q_release hG a14 b14
    obtain ⟨hpR, hfR⟩ := hangs_ok GR
    obtain ⟨cpR, cfR⟩ := causes_ok GR hS.1 (hS.tr (by omega))
    obtain ⟨iR1, iR2⟩ := ih (i + 1) n C xr xt rn ru rb ra lc lk ln lt ll lr tw tn tt (by omega) (by omega) (by omega) GR hS
    have vR2 : (if (if bt (gn a) b = true then (1 : Int32) else 0) = f_L_needs gn (nI a) (nI b) then (if f_L_needs rn (nI a) (nI b) = 0 then (1 : Int32) else (0 : Int32)) else (0 : Int32)) = 1 := by
      rw [(q_needs gn a14 b14).2, if_pos rfl, (q_needs rn a14 b14).2, vR, if_pos ((b00 false).mpr rfl)]
    have eK : f_L_tick xt (1 + nI T) = (xt + (1 + nI T), xt + (1 + nI T)) := by
      have q : (1 : Int32) + nI T = nI (1 + T) := nI_add 1 T
      rw [q]
      exact q_tick xt (by omega) (by omega)
    have vK : (if xt + (1 + nI T) = f_X4_now xt + 1 + nI T then (1 : Int32) else (0 : Int32)) = 1 := by
      have q : xt + (1 + nI T) = f_X4_now xt + 1 + nI T := (Int32.add_assoc xt 1 (nI T)).symm
      exact if_pos q
    obtain ⟨iK1, iK2⟩ := ih (i + 1) n C xr (xt + (1 + nI T)) gn gu gb ga lc lk ln lt ll lr tw tn tt (by omega) (by omega) (by omega) hG hS
    obtain ⟨pt, et⟩ := q_ticket tn a14
    obtain ⟨y40, h40⟩ : ∃ y : Int32, y = (if f_L_ticket tn (nI a) ≤ 0 then (0 : Int32) else (1 : Int32)) := ⟨_, rfl⟩
    have hTR := hS.tr (by omega) a a14
    have raised : (y40 = 0 ∧ bt xr a = false) ∨ (y40 = 1 ∧ bt xr a = true) := by
      rw [h40, et]
      cases hba : bt xr a
      · refine Or.inl ⟨if_pos ?_, rfl⟩
        exact Classical.byContradiction fun q => by rw [hTR.mpr q] at hba; cases hba
      · exact Or.inr ⟨if_neg (hTR.mp hba), rfl⟩
    refine ⟨?_, ?_⟩
    · rw [p_L_law_L30]
      refine ⟨fun q => absurd q (w40 hi40), fun _ => ⟨fun _ => trivial, fun _ => ⟨pcell, fun y11 q11 => ?_⟩⟩⟩
      rw [ecell, e8, eD, eB] at q11
      subst q11
      rw [ecell, e8, eM, eA]
      refine ⟨fun _ => ?_, fun _ => ⟨fun _ => ⟨fun _ => ?_, fun _ => ⟨fun _ => ?_, fun _ => ?_⟩⟩, fun _ => ?_⟩⟩
      · -- need
        refine ⟨⟨fun _ => trivial, fun _ => ⟨(q_depends gb b14 a14).1, fun _ => trivial, fun _ => trivial⟩⟩, fun y13 q13 => ⟨pnd, fun r u0 u1 u2 u3 qn => ⟨⟨fun _ => trivial, fun _ => trivial⟩, fun y18 q18 => ⟨⟨fun _ => ⟨(q_needs _ a14 b14).1, fun _ => trivial, fun _ => ⟨fun _ => trivial, fun _ => trivial⟩⟩, fun _ => trivial⟩, fun y20 q20 => ?_⟩⟩⟩⟩
        rw [eN] at qn
        cases qn
        subst q13
        subst q18
        rw [vN] at q20
        subst q20
        refine ⟨tail_p cpN hpN, fun y25 q25 => ?_⟩
        rw [tail_f cfN hfN] at q25
        subst q25
        rw [nI_1]
        exact iN1
      · -- release
        refine ⟨(q_needs gn a14 b14).1, fun y120 q120 => ⟨pR, fun r u0 u1 u2 u3 qr => ⟨⟨fun _ => ⟨(q_needs _ a14 b14).1, fun _ => trivial, fun _ => trivial⟩, fun _ => trivial⟩, fun y122 q122 => ?_⟩⟩⟩
        rw [eR] at qr
        cases qr
        subst q120
        rw [vR2] at q122
        subst q122
        refine ⟨tail_p cpR hpR, fun y25 q25 => ?_⟩
        rw [tail_f cfR hfR] at q25
        subst q25
        rw [nI_1]
        exact iR1
      · -- tick
        intro r u qk
        rw [eT] at qk
        rw [eK] at qk
        cases qk
        refine ⟨⟨fun _ => trivial, fun _ => trivial⟩, fun y106 q106 => ?_⟩
        rw [eT, vK] at q106
        subst q106
        refine ⟨tail_p cpO hpO, fun y25 q25 => ?_⟩
        rw [tail_f cfO hfO] at q25
        subst q25
        rw [nI_1]
        exact iK1
      · -- raise, clear
        refine ⟨pt, ⟨fun _ => trivial, fun _ => trivial⟩, fun z40 q40 => ?_⟩
        rw [← h40] at q40
        subst q40
        rcases raised with ⟨e40, hba⟩ | ⟨e40, hba⟩
        · have n40 : y40 = 0 := e40
          obtain ⟨p1, v1, xr1, lc1, lk1, ln1, lt1, ll1, lr1, tw1, tn1, tt1, e1, n1, S1, b1⟩ := q_raise hG hC2 (xt := xt) (lk := lk) (ln := ln) (lt := lt) (ll := ll) (lr := lr) (tt := tt) hS a14 hba
          obtain ⟨p2, v2, e2, n2⟩ := q_raise_no (xt := xt) (gb := gb) (ga := ga) (lc := lc1) (lk := lk1) (ln := ln1) (lt := lt1) (ll := ll1) (lr := lr1) (tw := tw1) (tn := tn1) (tt := tt1) a14 b1
          obtain ⟨pt1, et1⟩ := q_ticket tn1 a14
          have t1 : ¬ f_L_ticket tn1 (nI a) ≤ 0 := by rw [et1]; exact (S1.tr (by omega) a a14).mp b1
          obtain ⟨cpS, cfS⟩ := causes_ok hG S1.1 (S1.tr (by omega))
          obtain ⟨iS1, -⟩ := ih (i + 1) n (C + 1) xr1 xt gn gu gb ga lc1 lk1 ln1 lt1 ll1 lr1 tw1 tn1 tt1 (by omega) (by omega) (by omega) hG S1
          have ev : f_X4_events lc1 = f_X4_events lc + 1 := by unfold f_X4_events f_X2_count; rw [S1.2.1, hS.2.1, nI_1]
          refine ⟨fun _ => ⟨p1, fun r0 r1 r2 r3 r4 r5 r6 r7 r8 r9 r10 qr => ?_⟩, fun q => absurd n40 q⟩
          rw [e1] at qr
          cases qr
          refine ⟨fun q => absurd q n1, fun _ => ⟨pt1, fun q => absurd q t1, fun _ => ⟨p2, fun s0 s1 s2 s3 s4 s5 s6 s7 s8 s9 s10 qs => ?_⟩⟩⟩
          rw [e2] at qs
          cases qs
          refine ⟨⟨fun _ => trivial, fun _ => trivial⟩, fun y53 q53 => ?_⟩
          rw [if_pos n2] at q53
          subst q53
          refine ⟨⟨fun _ => trivial, fun _ => ⟨fun _ => ⟨fun _ => trivial, fun _ => trivial⟩, fun _ => ⟨fun _ => trivial, fun _ => trivial⟩⟩⟩, fun y55 q55 => ?_⟩
          rw [if_neg k1, if_pos n40, if_pos ev] at q55
          subst q55
          refine ⟨tail_p cpS hpO, fun y25 q25 => ?_⟩
          rw [tail_f cfS hfO] at q25
          subst q25
          rw [nI_1]
          exact iS1
        · have n40 : ¬ y40 = 0 := by rw [e40]; exact k1
          obtain ⟨p1, v1, xc1, lc3, lk3, ln3, lt3, ll3, tn3, e1, n1, S1, b1, d1⟩ := q_clear hC2 (xt := xt) (lk := lk) (ln := ln) (lt := lt) (ll := ll) (lr := lr) hS a14 hba
          obtain ⟨pt1, et1⟩ := q_ticket tn3 a14
          have t1 : f_L_ticket tn3 (nI a) = -1 := et1.trans d1
          obtain ⟨p2, v2, xr2, lc2, lk2, ln2, lt2, ll2, lr2, tw2, tn2, tt2, e2, n2, S2, b2⟩ := q_raise hG (show C + 1 < 300 by omega) (xt := xt) (lk := lk3) (ln := ln3) (lt := lt3) (ll := ll3) (lr := lr) (tt := tt) S1 a14 b1
          obtain ⟨p3, v3, xc2, lc4, lk4, ln4, lt4, ll4, tn4, e3, n3, S3, b3, d3⟩ := q_clear (show C + 1 + 1 < 300 by omega) (xt := xt) (lk := lk2) (ln := ln2) (lt := lt2) (ll := ll2) (lr := lr2) S2 a14 b2
          obtain ⟨cpS, cfS⟩ := causes_ok hG S3.1 (S3.tr (by omega))
          obtain ⟨iS1, -⟩ := ih (i + 1) n (C + 1 + 1 + 1) xc2 xt gn gu gb ga lc4 lk4 ln4 lt4 ll4 lr2 tw2 tn4 tt2 (by omega) (by omega) (by omega) hG S3
          have ev : f_X4_events lc4 = f_X4_events lc + 3 := by
            unfold f_X4_events f_X2_count
            rw [S3.2.1, hS.2.1]
            exact (nI_add C 3).symm
          refine ⟨fun q => absurd q n40, fun _ => ⟨p1, fun r0 r1 r2 r3 r4 r5 r6 r7 qr => ?_⟩⟩
          rw [e1] at qr
          cases qr
          refine ⟨fun q => absurd q n1, fun _ => ⟨pt1, fun _ => ⟨p2, fun s0 s1 s2 s3 s4 s5 s6 s7 s8 s9 s10 qs => ?_⟩, fun q => absurd t1 q⟩⟩
          rw [e2] at qs
          cases qs
          refine ⟨fun q => absurd q n2, fun _ => ⟨p3, fun t0 t1 t2 t3 t4 t5 t6 t7 qt => ?_⟩⟩
          rw [e3] at qt
          cases qt
          refine ⟨⟨fun _ => trivial, fun _ => trivial⟩, fun y85 q85 => ?_⟩
          rw [if_neg n3] at q85
          subst q85
          refine ⟨⟨fun _ => trivial, fun _ => ⟨fun _ => ⟨fun _ => trivial, fun _ => trivial⟩, fun _ => ⟨fun _ => trivial, fun _ => trivial⟩⟩⟩, fun y87 q87 => ?_⟩
          rw [if_neg k1, if_neg n40, if_pos ev] at q87
          subst q87
          refine ⟨tail_p cpS hpO, fun y25 q25 => ?_⟩
          rw [tail_f cfS hfO] at q25
          subst q25
          rw [nI_1]
          exact iS1
      · -- need
        refine ⟨⟨fun _ => trivial, fun _ => ⟨(q_depends gb b14 a14).1, fun _ => trivial, fun _ => trivial⟩⟩, fun y13 q13 => ⟨pnd, fun r u0 u1 u2 u3 qn => ⟨⟨fun _ => trivial, fun _ => trivial⟩, fun y18 q18 => ⟨⟨fun _ => ⟨(q_needs _ a14 b14).1, fun _ => trivial, fun _ => ⟨fun _ => trivial, fun _ => trivial⟩⟩, fun _ => trivial⟩, fun y20 q20 => ?_⟩⟩⟩⟩
        rw [eN] at qn
        cases qn
        subst q13
        subst q18
        rw [vN] at q20
        subst q20
        refine ⟨tail_p cpN hpN, fun y25 q25 => ?_⟩
        rw [tail_f cfN hfN] at q25
        subst q25
        rw [nI_1]
        exact iN1
    · rw [f_L_law_L30, if_neg (w40 hi40), if_neg k1, ecell, e8, eM, eA, eT, eD, eB, ← h40]
      dsimp -iota only
      by_cases cM : nI M < 2
      · rw [if_pos cM]
        rw [eN]
        dsimp only
        rw [vN, tail_f cfN hfN, nI_1]
        exact iN2
      · rw [if_neg cM]
        by_cases c10 : (10 : Int32) ≤ nI i
        · rw [if_pos c10]
          by_cases c2 : nI M = 2
          · rw [if_pos c2, eR]
            dsimp only
            rw [vR2, tail_f cfR hfR, nI_1]
            exact iR2
          · rw [if_neg c2]
            by_cases c3 : nI M = 3
            · rw [if_pos c3, eK]
              dsimp only
              rw [vK, tail_f cfO hfO, nI_1]
              exact iK2
            · rw [if_neg c3]
              rcases raised with ⟨e40, hba⟩ | ⟨e40, hba⟩
              · have n40 : y40 = 0 := e40
                obtain ⟨-, v1, xr1, lc1, lk1, ln1, lt1, ll1, lr1, tw1, tn1, tt1, e1, n1, S1, b1⟩ := q_raise hG hC2 (xt := xt) (lk := lk) (ln := ln) (lt := lt) (ll := ll) (lr := lr) (tt := tt) hS a14 hba
                obtain ⟨-, v2, e2, n2⟩ := q_raise_no (xt := xt) (gb := gb) (ga := ga) (lc := lc1) (lk := lk1) (ln := ln1) (lt := lt1) (ll := ll1) (lr := lr1) (tw := tw1) (tn := tn1) (tt := tt1) a14 b1
                have t1 : ¬ f_L_ticket tn1 (nI a) ≤ 0 := by rw [(q_ticket tn1 a14).2]; exact (S1.tr (by omega) a a14).mp b1
                obtain ⟨-, cfS⟩ := causes_ok hG S1.1 (S1.tr (by omega))
                obtain ⟨-, iS2⟩ := ih (i + 1) n (C + 1) xr1 xt gn gu gb ga lc1 lk1 ln1 lt1 ll1 lr1 tw1 tn1 tt1 (by omega) (by omega) (by omega) hG S1
                have ev : f_X4_events lc1 = f_X4_events lc + 1 := by unfold f_X4_events f_X2_count; rw [S1.2.1, hS.2.1, nI_1]
                rw [if_pos n40, e1]
                dsimp only
                rw [if_neg n1, if_neg t1, e2]
                dsimp only
                rw [if_pos n2, if_neg k1, if_pos n40, if_pos ev, tail_f cfS hfO, nI_1]
                exact iS2
              · have n40 : ¬ y40 = 0 := by rw [e40]; exact k1
                obtain ⟨-, v1, xc1, lc3, lk3, ln3, lt3, ll3, tn3, e1, n1, S1, b1, d1⟩ := q_clear hC2 (xt := xt) (lk := lk) (ln := ln) (lt := lt) (ll := ll) (lr := lr) hS a14 hba
                have t1 : f_L_ticket tn3 (nI a) = -1 := (q_ticket tn3 a14).2.trans d1
                obtain ⟨-, v2, xr2, lc2, lk2, ln2, lt2, ll2, lr2, tw2, tn2, tt2, e2, n2, S2, b2⟩ := q_raise hG (show C + 1 < 300 by omega) (xt := xt) (lk := lk3) (ln := ln3) (lt := lt3) (ll := ll3) (lr := lr) (tt := tt) S1 a14 b1
                obtain ⟨-, v3, xc2, lc4, lk4, ln4, lt4, ll4, tn4, e3, n3, S3, b3, d3⟩ := q_clear (show C + 1 + 1 < 300 by omega) (xt := xt) (lk := lk2) (ln := ln2) (lt := lt2) (ll := ll2) (lr := lr2) S2 a14 b2
                obtain ⟨-, cfS⟩ := causes_ok hG S3.1 (S3.tr (by omega))
                obtain ⟨-, iS2⟩ := ih (i + 1) n (C + 1 + 1 + 1) xc2 xt gn gu gb ga lc4 lk4 ln4 lt4 ll4 lr2 tw2 tn4 tt2 (by omega) (by omega) (by omega) hG S3
                have ev : f_X4_events lc4 = f_X4_events lc + 3 := by
                  unfold f_X4_events f_X2_count
                  rw [S3.2.1, hS.2.1]
                  exact (nI_add C 3).symm
                rw [if_neg n40, e1]
                dsimp only
                rw [if_neg n1, if_pos t1, e2]
                dsimp only
                rw [if_neg n2, e3]
                dsimp only
                rw [if_neg n3, if_neg k1, if_neg n40, if_pos ev, tail_f cfS hfO, nI_1]
                exact iS2
        · rw [if_neg c10]
          rw [eN]
          dsimp only
          rw [vN, tail_f cfN hfN, nI_1]
          exact iN2
end
section
/-! ===== the law's function answers 1 ===== -/
theorem RM.zero : RM (fun _ => 0) := fun _ _ => M14.zero
theorem GI.zero : GI (fun _ => 0) (fun _ => 0) (fun _ => 0) (fun _ => 0) := by
  have hno : ∀ i j, ¬ NR (fun _ => (0 : Int32)) i j := fun i j q => by
    have q2 : bt 0 j = true := q
    rw [b_0] at q2
    cases q2
  have hrc : ∀ i j, ¬ Rc (NR (fun _ => (0 : Int32))) i j := fun i j ⟨n, hw⟩ => by
    match n, hw with
    | 0, hw => exact hno i j hw
    | n + 1, ⟨k, _, h1, _⟩ => exact hno i k h1
  exact ⟨RM.zero, RM.zero, fun i _ q => hrc i i q, fun i j _ _ => ⟨fun q => absurd q (hno _ _), fun q => absurd q (hno _ _)⟩, fun _ _ => ⟨M14.zero, M14.zero⟩, fun i j _ _ => ⟨⟨fun q => absurd q (hno _ _), fun q => absurd q (hrc _ _)⟩, ⟨fun q => absurd q (hno _ _), fun q => absurd q (hrc _ _)⟩⟩⟩
theorem init28 : ∀ (c j n : Nat) (a : AA), j + c = 14 → c < n → p_X3_init_L28 n (nI j) a ∧ ∃ a', f_X3_init_L28 n (nI j) a = (nI 14, a') ∧ ∀ k, k < 14 → a' k = if j ≤ k then -1 else a k := by
  intro c
  induction c with
  | zero =>
    intro j n a hj hn
    obtain ⟨n, rfl⟩ : ∃ k, n = k + 1 := ⟨n - 1, by omega⟩
    have e : j = 14 := by omega
    subst e
    refine ⟨?_, a, ?_, fun k hk => by rw [if_neg (by omega)]⟩
    · rw [p_X3_init_L28]; exact ⟨fun _ => trivial, fun q => absurd y14 q⟩
    · rw [f_X3_init_L28, if_pos y14]
  | succ c ih =>
    intro j n a hj hn
    obtain ⟨n, rfl⟩ : ∃ k, n = k + 1 := ⟨n - 1, by omega⟩
    have hj14 : j < 14 := by omega
    obtain ⟨a1, a', a2, a3⟩ := ih (j + 1) n (upd a j (-1)) (by omega) (by omega)
    refine ⟨?_, a', ?_, fun k hk => ?_⟩
    · rw [p_X3_init_L28]
      exact ⟨fun q => absurd q (n14 hj14), fun _ => ⟨in14 hj14, by rw [nI_1, cl (by omega)]; exact a1⟩⟩
    · rw [f_X3_init_L28, if_neg (n14 hj14), nI_1, cl (by omega)]; exact a2
    · rw [a3 k hk, upd_at]
      rcases Nat.lt_trichotomy k j with q | q | q
      · rw [if_neg (by omega), if_neg (by omega), if_neg (by omega)]
      · subst q
        rw [if_neg (by omega), if_pos rfl, if_pos (Nat.le_refl _)]
      · rw [if_pos (show j + 1 ≤ k from q), if_pos (by omega)]
theorem init49 : ∀ (c j n : Nat) (a : AA), j + c = 301 → c < n → p_X3_init_L49 n (nI j) a ∧ ∃ a', f_X3_init_L49 n (nI j) a = (nI 301, a') := by
  intro c
  induction c with
  | zero =>
    intro j n a hj hn
    obtain ⟨n, rfl⟩ : ∃ k, n = k + 1 := ⟨n - 1, by omega⟩
    have e : j = 301 := by omega
    subst e
    have l : (300 : Int32) < nI 301 := by decide +kernel
    refine ⟨?_, a, ?_⟩
    · rw [p_X3_init_L49]; exact ⟨fun _ => trivial, fun q => absurd l q⟩
    · rw [f_X3_init_L49, if_pos l]
  | succ c ih =>
    intro j n a hj hn
    obtain ⟨n, rfl⟩ : ∃ k, n = k + 1 := ⟨n - 1, by omega⟩
    have l : ¬ (300 : Int32) < nI j := nI_nlt (a := 300) (b := j) (by omega) (by decide)
    obtain ⟨a1, a', a2⟩ := ih (j + 1) n (upd a j (-1)) (by omega) (by omega)
    refine ⟨?_, a', ?_⟩
    · rw [p_X3_init_L49]
      exact ⟨fun q => absurd q l, fun _ => ⟨in301 (by omega), by rw [nI_1, cl (by omega)]; exact a1⟩⟩
    · rw [f_X3_init_L49, if_neg l, nI_1, cl (by omega)]; exact a2
theorem init_ok : p_X4_init ∧ ∃ lk ln lt ll lr tn tt, f_X4_init = ((fun _ => 0), (fun _ => 0), (fun _ => 0), (fun _ => 0), 0, lk, ln, lt, ll, lr, 0, tn, tt) ∧ ST 0 0 0 0 tn := by
  obtain ⟨a1, tn, a2, a3⟩ := init28 14 0 15 (fun _ => 0) rfl (by decide)
  obtain ⟨b1, tt, b2⟩ := init49 301 0 302 (fun _ => 0) rfl (by decide)
  rw [nI_0] at a1 a2 b1 b2
  have e3 : f_X3_init = (tn, tt) := by
    unfold f_X3_init
    rw [a2]
    dsimp only
    rw [b2]
  have p3 : p_X3_init := ⟨a1, fun _ _ q => ⟨b1, fun _ _ _ => trivial⟩⟩
  refine ⟨fun _ _ _ _ _ => fun _ _ _ _ _ _ => ⟨p3, fun _ _ _ => trivial⟩, (fun _ => 0), (fun _ => 0), (fun _ => 0), (fun _ => 0), (fun _ => 0), tn, tt, ?_, M14.zero, rfl, 0, rfl, Nat.le_refl _, fun k hk => Or.inl ⟨b_0 k, by rw [a3 k hk, if_pos (Nat.zero_le _)]⟩⟩
  unfold f_X4_init
  rw [e3]
  rfl
theorem law_true (xs : AA) {L : Nat} (hL : L ≤ 260) : f_L_law xs L = 1 ∧ p_L_law xs L := by
  have k1 : ¬ (1 : Int32) = 0 := by decide
  obtain ⟨p0, lk, ln, lt, ll, lr, tn, tt, e0, hS⟩ := init_ok
  obtain ⟨ph, eh⟩ := hangs_ok GI.zero
  obtain ⟨pc, ec⟩ := causes_ok GI.zero hS.1 (hS.tr (by omega))
  obtain ⟨pl, hl⟩ := law_S (xs := xs) hL 40 0 41 0 0 0 (fun _ => 0) (fun _ => 0) (fun _ => 0) (fun _ => 0) 0 lk ln lt ll lr 0 tn tt rfl (by decide) (Nat.le_refl _) GI.zero hS
  rw [nI_0] at pl hl
  obtain ⟨xr', xt', gn', gu', gb', ga', lc', lk', ln', lt', ll', lr', tw', tn', tt', el, hG, hM, hT⟩ := hl
  obtain ⟨ph2, eh2⟩ := hangs_ok hG
  obtain ⟨pc2, ec2⟩ := causes_ok hG hM hT
  have e3 : (if f_L_hangs (fun _ => 0) (fun _ => 0) = 0 then (0 : Int32) else (if f_L_causes (0 : Int32) (fun _ => 0) (fun _ => 0) (fun _ => 0) (fun _ => 0) tn = 0 then (0 : Int32) else (1 : Int32))) = 1 := by
    rw [eh, if_neg k1, ec, if_neg k1]
  constructor
  · unfold f_L_law
    rw [e0]
    dsimp only
    rw [e3, el]
    dsimp only
    rw [if_neg k1, eh2, if_neg k1, ec2, if_neg k1]
  · refine ⟨p0, fun u0 u1 u2 u3 u4 u5 u6 u7 u8 u9 u10 u11 u12 q => ?_⟩
    rw [e0] at q
    cases q
    refine ⟨ph, ⟨fun _ => trivial, fun _ => ⟨pc, fun _ => trivial, fun _ => trivial⟩⟩, fun y q => ?_⟩
    rw [e3] at q
    subst q
    refine ⟨pl, fun r0 r1 r2 r3 r4 r5 r6 r7 r8 r9 r10 r11 r12 r13 r14 r15 r16 q => ?_⟩
    rw [el] at q
    cases q
    exact ⟨⟨fun _ => trivial, fun _ => ⟨ph2, fun _ => trivial, fun _ => ⟨pc2, fun _ => trivial, fun _ => trivial⟩⟩⟩, fun _ _ => trivial⟩
end
