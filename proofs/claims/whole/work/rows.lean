section
-- ===== PART A: goes FIRST, ahead of the names: the tables' words, and 'selects' of the private methods out of them =====
/-- a private method of a class that the tables say can be made, by its rows of tables_1 -/
def lw_okq (q : MethodName × Nat) : Prop := (q.1.cls ≠ "java/lang/invoke/MethodHandle" ∧ q.1.cls ≠ "java/lang/invoke/VarHandle") ∧ Cond.instantiable q.1.cls q.2 ∈ tables_1 ∧ Cond.privateMethod q.1 ∈ tables_1 ∧ Cond.instanceMethod q.1 ∈ tables_1
theorem lw_p0 : lw_okq (⟨"Alarmgrove$Tickets", "isUsed", "(I)Z"⟩, 4) := ⟨⟨by decide +kernel, by decide +kernel⟩, List.mem_of_getElem? (i := 69) (by decide +kernel), List.mem_of_getElem? (i := 128) (by decide +kernel), List.mem_of_getElem? (i := 129) (by decide +kernel)⟩
theorem lw_p1 : lw_okq (⟨"Alarmgrove", "diagnoser", "()LAlarmgrove$Diagnoser;"⟩, 5) := ⟨⟨by decide +kernel, by decide +kernel⟩, List.mem_of_getElem? (i := 16) (by decide +kernel), List.mem_of_getElem? (i := 157) (by decide +kernel), List.mem_of_getElem? (i := 158) (by decide +kernel)⟩
theorem lw_p2 : lw_okq (⟨"Alarmgrove$Diagnoser", "isBetter", "(II)Z"⟩, 3) := ⟨⟨by decide +kernel, by decide +kernel⟩, List.mem_of_getElem? (i := 161) (by decide +kernel), List.mem_of_getElem? (i := 201) (by decide +kernel), List.mem_of_getElem? (i := 202) (by decide +kernel)⟩
theorem lw_p3 : lw_okq (⟨"Alarmgrove$Diagnoser", "greedyNext", "(I)I"⟩, 3) := ⟨⟨by decide +kernel, by decide +kernel⟩, List.mem_of_getElem? (i := 161) (by decide +kernel), List.mem_of_getElem? (i := 230) (by decide +kernel), List.mem_of_getElem? (i := 231) (by decide +kernel)⟩
theorem lw_p4 : lw_okq (⟨"java/lang/Throwable", "fillInStackTrace", "(I)Ljava/lang/Throwable;"⟩, 6) := ⟨⟨by decide +kernel, by decide +kernel⟩, List.mem_of_getElem? (i := 284) (by decide +kernel), List.mem_of_getElem? (i := 282) (by decide +kernel), List.mem_of_getElem? (i := 283) (by decide +kernel)⟩
theorem lw_p5 : lw_okq (⟨"Alarmgrove$Graph", "followAll", "()V"⟩, 4) := ⟨⟨by decide +kernel, by decide +kernel⟩, List.mem_of_getElem? (i := 24) (by decide +kernel), List.mem_of_getElem? (i := 339) (by decide +kernel), List.mem_of_getElem? (i := 340) (by decide +kernel)⟩
theorem lw_p6 : lw_okq (⟨"Alarmgrove", "checkChange", "(Z)V"⟩, 5) := ⟨⟨by decide +kernel, by decide +kernel⟩, List.mem_of_getElem? (i := 16) (by decide +kernel), List.mem_of_getElem? (i := 408) (by decide +kernel), List.mem_of_getElem? (i := 409) (by decide +kernel)⟩
theorem lw_p7 : lw_okq (⟨"Alarmgrove$Log", "add", "(IIII)V"⟩, 6) := ⟨⟨by decide +kernel, by decide +kernel⟩, List.mem_of_getElem? (i := 44) (by decide +kernel), List.mem_of_getElem? (i := 436) (by decide +kernel), List.mem_of_getElem? (i := 437) (by decide +kernel)⟩
theorem lw_p8 : lw_okq (⟨"Alarmgrove$Tickets", "openNew", "()I"⟩, 4) := ⟨⟨by decide +kernel, by decide +kernel⟩, List.mem_of_getElem? (i := 69) (by decide +kernel), List.mem_of_getElem? (i := 448) (by decide +kernel), List.mem_of_getElem? (i := 449) (by decide +kernel)⟩
theorem lw_p9 : lw_okq (⟨"Alarmgrove$Tickets", "unite", "(I)I"⟩, 4) := ⟨⟨by decide +kernel, by decide +kernel⟩, List.mem_of_getElem? (i := 69) (by decide +kernel), List.mem_of_getElem? (i := 452) (by decide +kernel), List.mem_of_getElem? (i := 453) (by decide +kernel)⟩
theorem lw_p10 : lw_okq (⟨"Alarmgrove$Tickets", "merge", "(II)V"⟩, 4) := ⟨⟨by decide +kernel, by decide +kernel⟩, List.mem_of_getElem? (i := 69) (by decide +kernel), List.mem_of_getElem? (i := 460) (by decide +kernel), List.mem_of_getElem? (i := 461) (by decide +kernel)⟩
theorem lw_p11 : lw_okq (⟨"Alarmgrove", "stateNow", "(I)I"⟩, 5) := ⟨⟨by decide +kernel, by decide +kernel⟩, List.mem_of_getElem? (i := 16) (by decide +kernel), List.mem_of_getElem? (i := 486) (by decide +kernel), List.mem_of_getElem? (i := 487) (by decide +kernel)⟩
theorem lw_p12 : lw_okq (⟨"Alarmgrove", "checkEvent", "(I)V"⟩, 5) := ⟨⟨by decide +kernel, by decide +kernel⟩, List.mem_of_getElem? (i := 16) (by decide +kernel), List.mem_of_getElem? (i := 516) (by decide +kernel), List.mem_of_getElem? (i := 517) (by decide +kernel)⟩
theorem lw_p13 : lw_okq (⟨"Alarmgrove$Diagnoser", "explainsAll", "(I)Z"⟩, 3) := ⟨⟨by decide +kernel, by decide +kernel⟩, List.mem_of_getElem? (i := 161) (by decide +kernel), List.mem_of_getElem? (i := 603) (by decide +kernel), List.mem_of_getElem? (i := 604) (by decide +kernel)⟩
theorem lw_p14 : lw_okq (⟨"AlarmgroveModel", "goes", "(ZZ)Z"⟩, 16) := ⟨⟨by decide +kernel, by decide +kernel⟩, List.mem_of_getElem? (i := 626) (by decide +kernel), List.mem_of_getElem? (i := 695) (by decide +kernel), List.mem_of_getElem? (i := 696) (by decide +kernel)⟩
theorem lw_p15 : lw_okq (⟨"AlarmgroveModel", "closes", "()V"⟩, 16) := ⟨⟨by decide +kernel, by decide +kernel⟩, List.mem_of_getElem? (i := 626) (by decide +kernel), List.mem_of_getElem? (i := 699) (by decide +kernel), List.mem_of_getElem? (i := 700) (by decide +kernel)⟩
def lw_privs_1 : List (MethodName × Nat) := [(⟨"Alarmgrove$Tickets", "isUsed", "(I)Z"⟩, 4), (⟨"Alarmgrove", "diagnoser", "()LAlarmgrove$Diagnoser;"⟩, 5), (⟨"Alarmgrove$Diagnoser", "isBetter", "(II)Z"⟩, 3), (⟨"Alarmgrove$Diagnoser", "greedyNext", "(I)I"⟩, 3), (⟨"java/lang/Throwable", "fillInStackTrace", "(I)Ljava/lang/Throwable;"⟩, 6), (⟨"Alarmgrove$Graph", "followAll", "()V"⟩, 4), (⟨"Alarmgrove", "checkChange", "(Z)V"⟩, 5), (⟨"Alarmgrove$Log", "add", "(IIII)V"⟩, 6), (⟨"Alarmgrove$Tickets", "openNew", "()I"⟩, 4), (⟨"Alarmgrove$Tickets", "unite", "(I)I"⟩, 4), (⟨"Alarmgrove$Tickets", "merge", "(II)V"⟩, 4), (⟨"Alarmgrove", "stateNow", "(I)I"⟩, 5), (⟨"Alarmgrove", "checkEvent", "(I)V"⟩, 5), (⟨"Alarmgrove$Diagnoser", "explainsAll", "(I)Z"⟩, 3), (⟨"AlarmgroveModel", "goes", "(ZZ)Z"⟩, 16), (⟨"AlarmgroveModel", "closes", "()V"⟩, 16)]
theorem lw_r1 : ∀ q ∈ lw_privs_1, lw_okq q := List.forall_mem_cons.mpr ⟨lw_p0, List.forall_mem_cons.mpr ⟨lw_p1, List.forall_mem_cons.mpr ⟨lw_p2, List.forall_mem_cons.mpr ⟨lw_p3, List.forall_mem_cons.mpr ⟨lw_p4, List.forall_mem_cons.mpr ⟨lw_p5, List.forall_mem_cons.mpr ⟨lw_p6, List.forall_mem_cons.mpr ⟨lw_p7, List.forall_mem_cons.mpr ⟨lw_p8, List.forall_mem_cons.mpr ⟨lw_p9, List.forall_mem_cons.mpr ⟨lw_p10, List.forall_mem_cons.mpr ⟨lw_p11, List.forall_mem_cons.mpr ⟨lw_p12, List.forall_mem_cons.mpr ⟨lw_p13, List.forall_mem_cons.mpr ⟨lw_p14, List.forall_mem_cons.mpr ⟨lw_p15, fun _ h => absurd h List.not_mem_nil⟩⟩⟩⟩⟩⟩⟩⟩⟩⟩⟩⟩⟩⟩⟩⟩
theorem lw_p16 : lw_okq (⟨"AlarmgroveModel", "kin", "(I)I"⟩, 16) := ⟨⟨by decide +kernel, by decide +kernel⟩, List.mem_of_getElem? (i := 626) (by decide +kernel), List.mem_of_getElem? (i := 731) (by decide +kernel), List.mem_of_getElem? (i := 732) (by decide +kernel)⟩
theorem lw_p17 : lw_okq (⟨"AlarmgroveModel", "notes", "(III)V"⟩, 16) := ⟨⟨by decide +kernel, by decide +kernel⟩, List.mem_of_getElem? (i := 626) (by decide +kernel), List.mem_of_getElem? (i := 735) (by decide +kernel), List.mem_of_getElem? (i := 736) (by decide +kernel)⟩
theorem lw_p18 : lw_okq (⟨"AlarmgroveModel", "stateOf", "(I)I"⟩, 16) := ⟨⟨by decide +kernel, by decide +kernel⟩, List.mem_of_getElem? (i := 626) (by decide +kernel), List.mem_of_getElem? (i := 750) (by decide +kernel), List.mem_of_getElem? (i := 751) (by decide +kernel)⟩
theorem lw_p19 : lw_okq (⟨"AlarmgroveModel", "raisesOf", "(II)I"⟩, 16) := ⟨⟨by decide +kernel, by decide +kernel⟩, List.mem_of_getElem? (i := 626) (by decide +kernel), List.mem_of_getElem? (i := 754) (by decide +kernel), List.mem_of_getElem? (i := 755) (by decide +kernel)⟩
theorem lw_p20 : lw_okq (⟨"AlarmgroveModel", "isEvent", "(I)Z"⟩, 16) := ⟨⟨by decide +kernel, by decide +kernel⟩, List.mem_of_getElem? (i := 626) (by decide +kernel), List.mem_of_getElem? (i := 774) (by decide +kernel), List.mem_of_getElem? (i := 775) (by decide +kernel)⟩
theorem lw_p21 : lw_okq (⟨"AlarmgroveModel", "isTicket", "(I)Z"⟩, 16) := ⟨⟨by decide +kernel, by decide +kernel⟩, List.mem_of_getElem? (i := 626) (by decide +kernel), List.mem_of_getElem? (i := 802) (by decide +kernel), List.mem_of_getElem? (i := 803) (by decide +kernel)⟩
theorem lw_p22 : lw_okq (⟨"AlarmgroveModel", "plausible", "(I)Z"⟩, 16) := ⟨⟨by decide +kernel, by decide +kernel⟩, List.mem_of_getElem? (i := 626) (by decide +kernel), List.mem_of_getElem? (i := 818) (by decide +kernel), List.mem_of_getElem? (i := 819) (by decide +kernel)⟩
theorem lw_p23 : lw_okq (⟨"AlarmgroveModel", "best", "()I"⟩, 16) := ⟨⟨by decide +kernel, by decide +kernel⟩, List.mem_of_getElem? (i := 626) (by decide +kernel), List.mem_of_getElem? (i := 826) (by decide +kernel), List.mem_of_getElem? (i := 827) (by decide +kernel)⟩
theorem lw_p24 : lw_okq (⟨"AlarmgroveModel", "isBetter", "(II)Z"⟩, 16) := ⟨⟨by decide +kernel, by decide +kernel⟩, List.mem_of_getElem? (i := 626) (by decide +kernel), List.mem_of_getElem? (i := 830) (by decide +kernel), List.mem_of_getElem? (i := 831) (by decide +kernel)⟩
theorem lw_p25 : lw_okq (⟨"AlarmgroveModel", "explained", "(I)I"⟩, 16) := ⟨⟨by decide +kernel, by decide +kernel⟩, List.mem_of_getElem? (i := 626) (by decide +kernel), List.mem_of_getElem? (i := 834) (by decide +kernel), List.mem_of_getElem? (i := 835) (by decide +kernel)⟩
theorem lw_p26 : lw_okq (⟨"AlarmgroveModel", "joins", "(I)I"⟩, 16) := ⟨⟨by decide +kernel, by decide +kernel⟩, List.mem_of_getElem? (i := 626) (by decide +kernel), List.mem_of_getElem? (i := 854) (by decide +kernel), List.mem_of_getElem? (i := 855) (by decide +kernel)⟩
theorem lw_p27 : lw_okq (⟨"AlarmgroveModel", "explains", "(I)I"⟩, 16) := ⟨⟨by decide +kernel, by decide +kernel⟩, List.mem_of_getElem? (i := 626) (by decide +kernel), List.mem_of_getElem? (i := 858) (by decide +kernel), List.mem_of_getElem? (i := 859) (by decide +kernel)⟩
def lw_privs_2 : List (MethodName × Nat) := [(⟨"AlarmgroveModel", "kin", "(I)I"⟩, 16), (⟨"AlarmgroveModel", "notes", "(III)V"⟩, 16), (⟨"AlarmgroveModel", "stateOf", "(I)I"⟩, 16), (⟨"AlarmgroveModel", "raisesOf", "(II)I"⟩, 16), (⟨"AlarmgroveModel", "isEvent", "(I)Z"⟩, 16), (⟨"AlarmgroveModel", "isTicket", "(I)Z"⟩, 16), (⟨"AlarmgroveModel", "plausible", "(I)Z"⟩, 16), (⟨"AlarmgroveModel", "best", "()I"⟩, 16), (⟨"AlarmgroveModel", "isBetter", "(II)Z"⟩, 16), (⟨"AlarmgroveModel", "explained", "(I)I"⟩, 16), (⟨"AlarmgroveModel", "joins", "(I)I"⟩, 16), (⟨"AlarmgroveModel", "explains", "(I)I"⟩, 16)]
theorem lw_r2 : ∀ q ∈ lw_privs_2, lw_okq q := List.forall_mem_cons.mpr ⟨lw_p16, List.forall_mem_cons.mpr ⟨lw_p17, List.forall_mem_cons.mpr ⟨lw_p18, List.forall_mem_cons.mpr ⟨lw_p19, List.forall_mem_cons.mpr ⟨lw_p20, List.forall_mem_cons.mpr ⟨lw_p21, List.forall_mem_cons.mpr ⟨lw_p22, List.forall_mem_cons.mpr ⟨lw_p23, List.forall_mem_cons.mpr ⟨lw_p24, List.forall_mem_cons.mpr ⟨lw_p25, List.forall_mem_cons.mpr ⟨lw_p26, List.forall_mem_cons.mpr ⟨lw_p27, fun _ h => absurd h List.not_mem_nil⟩⟩⟩⟩⟩⟩⟩⟩⟩⟩⟩⟩
def lw_privs : List (MethodName × Nat) := lw_privs_1 ++ (lw_privs_2)
def lw_tbl : List Cond := k2_sels lw_privs ++ tables_1
theorem lw_privs_ok : ∀ q ∈ lw_privs, lw_okq q := by
  show ∀ q ∈ lw_privs_1 ++ (lw_privs_2), lw_okq q
  exact List.forall_mem_append.mpr ⟨lw_r1, lw_r2⟩
/-! ===== BEGIN words of one list among another's, by their places ===== -/
theorem goodIn_r {big : List Cond} (ws : List Cond) (ps : List Nat) (hp : ws = ps.filterMap (fun i => big[i]?)) (h : ws.all goodWord = true) : GoodIn big ws := by
  intro w hw
  have h1 := List.all_eq_true.mp h w hw
  rw [hp] at hw
  obtain ⟨i, -, hi⟩ := List.mem_filterMap.mp hw
  have hm : w ∈ big := by first | exact List.mem_of_getElem? hi | exact List.getElem?_mem hi
  exact ⟨hm, good_of_word h1⟩
theorem goodIn_app {big a b : List Cond} (ha : GoodIn big a) (hb : GoodIn big b) : GoodIn big (a ++ b) := fun w h => (List.mem_append.mp h).elim (ha w) (hb w)
theorem goodIn_ca {big a b : List Cond} {c : Cond} (ha : GoodIn big (c :: a)) (hb : GoodIn big b) : GoodIn big (c :: (a ++ b)) := fun w h => (List.mem_cons.mp h).elim (fun e => ha w (List.mem_cons.mpr (Or.inl e))) (fun h => (List.mem_append.mp h).elim (fun h => ha w (List.mem_cons.mpr (Or.inr h))) (hb w))
theorem goodIn_sub {big ws : List Cond} (hm : ∀ w ∈ ws, w ∈ big) (h : ws.all goodWord = true) : GoodIn big ws := fun w hw => ⟨hm w hw, good_of_word (List.all_eq_true.mp h w hw)⟩
/-! ===== END ===== -/

/-! ===== BEGIN exceptions that leave a method, and their catching by the caller (launches without stack traces) ===== -/
section VXA
/-! The laws vx_back, vx_callV, vx_callS, vx_callSW, vx_throw0, vx_throwS follow proofs of the library, with one case more: JvmDerived/Free/Laws.lean (Back.of_free), Shelf42/LK1.lean (callV, callS), Shelf/KitTraced.lean (throwNew0V, throwNewS). -/
/-- where a method has thrown q: the class by its name, the cell, what was written, the world -/
def vx_T (XC : String → State → State → Prop) (st : State) (q : Addr) (t : State) (mc ms : Nat) (free : Addr → Prop) : Prop :=
  ∃ (E : String) (ce : Cell) (L : List Loc), XC E st t ∧ t.heap[q]? = some ce ∧ ce.vm = .none ∧ st.vm.findClass E = some ce.cls ∧ st.WarmedH t.vm ∧ st.sameButNew ({ t with vm := st.vm } : State) L mc ms ∧ ∀ z ∈ L, free z.base
def vx_Q (Qc : Array Value → State → Outcome → State → Prop) (XC : String → State → State → Prop) (mc ms : Nat) (free : Addr → Prop) : Array Value → State → Outcome → State → Prop := fun a st o t =>
  (Qc a st o t ∧ ∃ L, FrameEnd st o t L mc ms ∧ ∀ q ∈ L, free q.base) ∨ ∃ q, o = .threw q ∧ vx_T XC st q t mc ms free
/-- a callee that returns or throws -/
def vx_Met (l : Launch) (y : MethodName) (ws : List Cond) (rm : Room) (Pc : Array Value → State → Prop) (Qc : Array Value → State → Outcome → State → Prop) (XC : String → State → State → Prop) (mc ms : Nat) (free : Addr → Prop) : Prop :=
  MetFree l y (headSpec ws rm) Pc (fun _ _ _ _ _ => True) (vx_Q Qc XC mc ms free)
def vx_Post (XC : String → State → State → Prop) (mc ms : Nat) (free : Addr → Prop) : Pt → Array Value → Addr → Pt → Prop := fun A a q B =>
  ∃ (g : JFrame) (mk : MethodId) (t : State) (L : List Loc) (E : String) (ce : Cell), B.U.heap = t.heap ∧ B.U.vm = t.vm ∧ XC E (A.U.calling g mk a) t ∧ t.heap[q]? = some ce ∧ ce.vm = .none ∧ A.U.vm.findClass E = some ce.cls ∧ B.locs = A.locs ++ L ∧ (∀ z ∈ L, free z.base) ∧ B.cells = A.cells + mc ∧ B.slots = A.slots + ms
def vx_Back (l : Launch) (R : Room) (p : Program) (e : Env) (below : List Frame) (s : State) (sargs : Array Value) (y : MethodName) (len W9 : Nat)
    (Pre : Pt → Array Value → Prop) (Post : Pt → Array Value → Option Value → Pt → Prop) (PostX : Pt → Array Value → Addr → Pt → Prop) : Prop :=
  ∀ (m : MethodId) (meth : Method) (c : Code) (A : Pt) (g : JFrame) (ig : Instr) (mk : MethodId) (a : Array Value),
    Stand p l e R s m sargs below meth c A.U A.locs A.cells A.slots → g.method = m → g.locals.size = c.maxLocals → decode c.code g.pc = .ok (ig, len) →
    2 * g.monitorRoom + (g.stack.map fun v => v.category).sum ≤ W9 → A.U.methodNamed? y = some mk → Pre A a →
    (∃ (v : Option Value) (B : Pt), Stand p l e R s m sargs below meth c B.U B.locs B.cells B.slots ∧ Post A a v B ∧
      Steps p.tables e below (doInvoke e (A.U.setTop g) [] mk a).1 (B.U.setTop { g with pc := g.pc + len, stack := v.toList ++ g.stack })) ∨
    (∃ (q : Addr) (B : Pt), Stand p l e R s m sargs below meth c B.U B.locs B.cells B.slots ∧ PostX A a q B ∧
      Steps p.tables e below (doInvoke e (A.U.setTop g) [] mk a).1 ((B.U.setTop g).pushFrame (.throwing q)))
section Payer
variable {l : Launch} {R : Room} {p : Program} {e : Env} {below : List Frame} {s : State} {sargs : Array Value} {y : MethodName} {len W9 : Nat}
theorem vx_back {ws : List Cond} {rm : Room} {Pc : Array Value → State → Prop} {Qc : Array Value → State → Outcome → State → Prop} {XC : String → State → State → Prop} {mc ms : Nat} {free : Addr → Prop} {bytes : ByteArray} {maxL : Nat} {ret : Option FieldType}
    (hM : vx_Met l y ws rm Pc Qc XC mc ms free) (hblind : FrameBlind Pc) (hrc : rm.cells = mc) (hrs : rm.slots = ms)
    (hframes : rm.frames + 1 ≤ R.frames) (hlocals : W9 + (maxL + 11) + rm.locals ≤ R.locals)
    (hws : ∀ w ∈ ws, ∀ a' U, s.WarmedH U.vm → w.before a' U = true) (hcode : Cond.code y bytes maxL ret ∈ ws) (hinit : ∀ a' U, s.WarmedH U.vm → (Cond.initialized y.cls).before a' U = true) :
    vx_Back l R p e below s sargs y len W9 (PreOf R mc ms Pc) (PostOf Qc mc ms free) (vx_Post XC mc ms free) := by
  intro m meth c A g ig mk a X hg hsize hdg hW hn hp
  have h1 : (headSpec ws rm).pre.before a A.U = true := atoms_intro fun w hw => hws w hw _ _ X.warmed
  have h2 : (Cond.code y bytes maxL ret).before a A.U = true := hws _ hcode _ _ X.warmed
  have h3 : (Cond.initialized y.cls).before a A.U = true := hinit _ _ X.warmed
  have h4 : A.cells + (headSpec ws rm).room.cells ≤ R.cells := by rw [show (headSpec ws rm).room.cells = mc from hrc]; exact hp.1
  have h5 : A.slots + (headSpec ws rm).room.slots ≤ R.slots := by rw [show (headSpec ws rm).room.slots = ms from hrs]; exact hp.2.1
  have hPc : Pc a (A.U.calling g mk a) := hblind _ _ _ _ hp.2.2
  obtain ⟨U, Ls, c0, s0⟩ := A
  dsimp only [Pt.U, Pt.locs, Pt.cells, Pt.slots] at h1 h2 h3 h4 h5 X hn hPc ⊢
  obtain ⟨methY, cY, hmY, hcY, -, hlY, -, -, -, -⟩ := Cond.code_spec hn h2
  obtain ⟨kY, hkY, -⟩ := className_of_methodNamed hn
  have hinitY : kY.init = .initialized := Cond.initialized_spec (findClass_of_methodNamed hn) hkY h3
  have h : At U g.method c below := by rw [hg]; exact X.here
  have hlocals9 : W9 + (maxL + 11) + (headSpec ws rm).room.locals ≤ R.locals := hlocals
  have happ : (headSpec ws rm).appliesLoose y e.platform (U.calling g mk a) = true :=
    Spec.appliesLoose_calling (g := g) h hdg hn hkY hinitY
      (X.room_calling (g := g) (R' := (headSpec ws rm).room) hsize hmY hcY hframes (by rw [hlY]; omega) h4 h5) h1
  obtain ⟨mid, hmid⟩ := h.above
  have hfr : (U.setTop g).frames = (.java g :: mid) ++ below := by rw [State.frames_setTop' g h.top, hmid]; rfl
  obtain ⟨o, s₂, hsteps, -, hend, hq⟩ := Steps.callFree hM p X.admits X.cas X.clock (acts := []) hfr happ hPc trivial
  have hq' : vx_Q Qc XC mc ms free a (U.calling g mk a) o s₂ := hq
  rw [State.frames_setTop' g h.top] at hend
  obtain ⟨g₀, hg0⟩ := Option.isSome_iff_exists.mp h.top
  obtain ⟨r, hr⟩ := State.topJava?_eq_some.mp hg0
  have hr' : (({ U with heap := s₂.heap, slotsUsed := s₂.slotsUsed } : State).setVm s₂.vm).frames = .java g₀ :: r := hr
  rcases hq' with ⟨hqc, L, hfe, hL⟩ | ⟨q, rfl, E, ce, L, hx, hce, hcv, hcl, hW₂, hsm, hL⟩
  · obtain ⟨⟨v, rfl⟩, hW₂, e2, q2, q3, q4, q5, q6⟩ := id hfe
    have e3 : s₂ = ({ (U.calling g mk a).setFrames s₂.frames with heap := s₂.heap, slotsUsed := s₂.slotsUsed } : State).setVm s₂.vm := by
      have : s₂ = ({ s₂ with vm := (U.calling g mk a).vm } : State).setVm s₂.vm := rfl
      rw [e2] at this
      exact this
    obtain ⟨c₂, i₂, len₂, hc₂, hd₂, hf₂⟩ := hend
    have hW' : U.WarmedH s₂.vm := hW₂
    have hcc : c₂ = c := by
      have h1 : s₂.code? g.method = U.code? g.method := by
        rw [State.code?_eq, State.code?_eq, hW'.alike.method?]
      exact Option.some.inj (hc₂.symm.trans (h1.trans h.code))
    subst hcc
    have hlen : len₂ = len := by rw [hdg] at hd₂; cases hd₂; rfl
    subst hlen
    have hs₂ : s₂ = (({ U with heap := s₂.heap, slotsUsed := s₂.slotsUsed } : State).setVm s₂.vm).setTop { g with pc := g.pc + len₂, stack := v.toList ++ g.stack } := by
      refine e3.trans ?_
      rw [hf₂, State.calling_eq h.top, State.setFrames_setFrames, State.setTop_of_frames _ hr', hr]
      rfl
    have hsame : U.sameButNew ({ U with heap := s₂.heap, slotsUsed := s₂.slotsUsed } : State) L mc ms := by
      refine ⟨?_, q2, q3, q4, q5, q6⟩
      obtain ⟨t, ht, -⟩ := State.frames_cons hr
      show ({ U with heap := s₂.heap, slotsUsed := s₂.slotsUsed } : State) = { U.setFrames U.frames with heap := s₂.heap, slotsUsed := s₂.slotsUsed }
      rw [State.setFrames_self ht]
    subst hg
    refine Or.inl ⟨v, ⟨(({ U with heap := s₂.heap, slotsUsed := s₂.slotsUsed } : State).setVm s₂.vm), Ls ++ L, c0 + mc, s0 + ms⟩,
      ⟨X.admits, X.cas, X.clock, X.frames, X.room, X.hears, X.method, X.code, (X.here.setHeapUsed s₂.heap s₂.slotsUsed).setVm hW'.alike, X.tail, State.WarmedH.trans X.warmed hW', X.limits, X.bytes, X.same.trans (hsame.setVm s.vm)⟩,
      ⟨g, mk, s₂, L, rfl, rfl, hqc, rfl, hL, rfl, rfl⟩, ?_⟩
    show Steps p.tables e below _ ((({ U with heap := s₂.heap, slotsUsed := s₂.slotsUsed } : State).setVm s₂.vm).setTop { g with pc := g.pc + len₂, stack := v.toList ++ g.stack })
    rw [← hs₂]
    exact hsteps
  · obtain ⟨e2, q2, q3, q4, q5, q6⟩ := id hsm
    have e3 : s₂ = ({ (U.calling g mk a).setFrames s₂.frames with heap := s₂.heap, slotsUsed := s₂.slotsUsed } : State).setVm s₂.vm := by
      have : s₂ = ({ s₂ with vm := (U.calling g mk a).vm } : State).setVm s₂.vm := rfl
      rw [e2] at this
      exact this
    have hf₂ : s₂.frames = .throwing q :: .java g :: U.frames.tail := hend
    have hW' : U.WarmedH s₂.vm := hW₂
    have hs₂ : s₂ = ((({ U with heap := s₂.heap, slotsUsed := s₂.slotsUsed } : State).setVm s₂.vm).setTop g).pushFrame (.throwing q) := by
      refine e3.trans ?_
      rw [hf₂, State.calling_eq h.top, State.setFrames_setFrames, State.pushFrame, State.frames_setTop _ hr', State.setTop_of_frames _ hr', State.setFrames_setFrames, hr]
      rfl
    have hsame : U.sameButNew ({ U with heap := s₂.heap, slotsUsed := s₂.slotsUsed } : State) L mc ms := by
      refine ⟨?_, q2, q3, q4, q5, q6⟩
      obtain ⟨t, ht, -⟩ := State.frames_cons hr
      show ({ U with heap := s₂.heap, slotsUsed := s₂.slotsUsed } : State) = { U.setFrames U.frames with heap := s₂.heap, slotsUsed := s₂.slotsUsed }
      rw [State.setFrames_self ht]
    subst hg
    refine Or.inr ⟨q, ⟨(({ U with heap := s₂.heap, slotsUsed := s₂.slotsUsed } : State).setVm s₂.vm), Ls ++ L, c0 + mc, s0 + ms⟩,
      ⟨X.admits, X.cas, X.clock, X.frames, X.room, X.hears, X.method, X.code, (X.here.setHeapUsed s₂.heap s₂.slotsUsed).setVm hW'.alike, X.tail, State.WarmedH.trans X.warmed hW', X.limits, X.bytes, X.same.trans (hsame.setVm s.vm)⟩,
      ⟨g, mk, s₂, L, E, ce, rfl, rfl, hx, hce, hcv, hcl, rfl, hL, rfl, rfl⟩, ?_⟩
    show Steps p.tables e below _ (((({ U with heap := s₂.heap, slotsUsed := s₂.slotsUsed } : State).setVm s₂.vm).setTop g).pushFrame (.throwing q))
    rw [← hs₂]
    exact hsteps
end Payer
section Calls
variable {p : Program} {l : Launch} {e : Env} {R : Room} {s : State} {m : MethodId} {args : Array Value} {below : List Frame} {meth : Method} {c : Code} {T : State} {locs : List Loc} {cells slots : Nat}
theorem vx_callV (X : Stand p l e R s m args below meth c T locs cells slots) (hexec : p.tables.exec = Jvm.exec) {own C : String} {index : Nat} {y : MethodName} {bytes : ByteArray} {maxL : Nat} {ret : Option FieldType}
    (hown : s.vm.findClass own = some m.cls) (hlink : (Cond.methodLink own index y).before args s = true) (hinst : (Cond.instanceMethod y).before args s = true) (hsel : (Cond.selects C y y).before args s = true)
    (hcode : (Cond.code y bytes maxL ret).before args s = true) (hy : y.cls ≠ "java/lang/invoke/MethodHandle" ∧ y.cls ≠ "java/lang/invoke/VarHandle")
    {W9 : Nat} {Pre : Pt → Array Value → Prop} {Post : Pt → Array Value → Option Value → Pt → Prop} {PostX : Pt → Array Value → Addr → Pt → Prop} (hK : vx_Back l R p e below s args y 3 W9 Pre Post PostX)
    {b : Addr} {cellB : Cell} (hcell : T.heap[b]? = some cellB) (hobj : cellB.vm.isStatics = false) (hcls : s.vm.findClass C = some cellB.cls)
    {g : JFrame} (hg : g.method = m) (hsize : g.locals.size = c.maxLocals) {argsL rest : List Value} (hlen : ∀ sig, parseMethodDescriptor y.desc = some sig → argsL.length = sig.parameters.length)
    (hstack : g.stack = argsL.reverse ++ .ref b :: rest) (hW : 2 * g.monitorRoom + (rest.map fun v => v.category).sum ≤ W9) (hdg : decode c.code g.pc = .ok (.invokevirtual index, 3))
    (hpre : ∀ vm₁, s.WarmedH vm₁ → Pre ⟨T.setVm vm₁, locs, cells, slots⟩ (Value.ref b :: argsL).toArray) :
    (∃ (v : Option Value) (vm₁ : Vm) (B : Pt), s.WarmedH vm₁ ∧ Stand p l e R s m args below meth c B.U B.locs B.cells B.slots ∧ Post ⟨T.setVm vm₁, locs, cells, slots⟩ (Value.ref b :: argsL).toArray v B ∧
      ∀ target, Steps p.tables e below (B.U.setTop { g with pc := g.pc + 3, stack := v.toList ++ rest }) target → Steps p.tables e below (T.setTop g) target) ∨
    (∃ (q : Addr) (vm₁ : Vm) (B : Pt), s.WarmedH vm₁ ∧ Stand p l e R s m args below meth c B.U B.locs B.cells B.slots ∧ PostX ⟨T.setVm vm₁, locs, cells, slots⟩ (Value.ref b :: argsL).toArray q B ∧
      Steps p.tables e below (T.setTop g) ((B.U.setTop { g with stack := rest }).pushFrame (.throwing q))) := by
  obtain ⟨mk, methM, hnamed, hmethM, hstM, habM⟩ := Cond.instanceMethod_spec hinst
  obtain ⟨methM', cM, hmethM', -, -, -, -, -, -, hsigM⟩ := Cond.code_spec hnamed hcode
  cases hmethM.symm.trans hmethM'
  obtain ⟨c2, r2, m2, q1, q2, q3, q4, kP, hkP, hkPi⟩ := Cond.selects_spec hsel
  cases hcls.symm.trans q1
  cases (State.methodFound?_of_named hnamed hy).symm.trans q2
  cases hnamed.symm.trans q3
  have hselP : selectMethod e.platform s.vm cellB.cls mk = .method mk := by rw [Launch.admits_selectMethod X.admits]; exact q4
  obtain ⟨vm₁, X₁, hstep₁⟩ := X.invokevirtual hexec hown hlink hnamed hmethM hstM hkP hkPi hy (a := b) (cell := cellB) hcell
    (fun z h => by rw [h] at hobj; cases hobj) hselP hmethM habM hkP hkPi (g := g) hg (argsL := argsL) (rest := rest) (hlen _ hsigM) hstack hdg
  rcases hK m meth c ⟨T.setVm vm₁, locs, cells, slots⟩ { g with stack := rest } (.invokevirtual index) mk (Value.ref b :: argsL).toArray X₁ hg hsize hdg hW (X₁.named hnamed) (hpre vm₁ X₁.warmed) with ⟨v, B, X', hpost, hsteps⟩ | ⟨q, B, X', hpost, hsteps⟩
  · exact Or.inl ⟨v, vm₁, B, X₁.warmed, X', hpost, fun target h => hstep₁ _ fun acts => by rw [doInvoke_state]; exact hsteps.trans h⟩
  · exact Or.inr ⟨q, vm₁, B, X₁.warmed, X', hpost, hstep₁ _ fun acts => by rw [doInvoke_state]; exact hsteps⟩
theorem vx_callS (X : Stand p l e R s m args below meth c T locs cells slots) (hexec : p.tables.exec = Jvm.exec) {own : String} {index : Nat} {y : MethodName} {bytes : ByteArray} {maxL : Nat} {ret : Option FieldType}
    (hown : s.vm.findClass own = some m.cls) (hlink : (Cond.methodLink own index y).before args s = true) (hstat : (Cond.static y).before args s = true) (hinit : (Cond.initialized y.cls).before args s = true)
    (hcode : (Cond.code y bytes maxL ret).before args s = true) (hy : y.cls ≠ "java/lang/invoke/MethodHandle" ∧ y.cls ≠ "java/lang/invoke/VarHandle")
    {W9 : Nat} {Pre : Pt → Array Value → Prop} {Post : Pt → Array Value → Option Value → Pt → Prop} {PostX : Pt → Array Value → Addr → Pt → Prop} (hK : vx_Back l R p e below s args y 3 W9 Pre Post PostX)
    {g : JFrame} (hg : g.method = m) (hsize : g.locals.size = c.maxLocals) {argsL rest : List Value} (hlen : ∀ sig, parseMethodDescriptor y.desc = some sig → argsL.length = sig.parameters.length)
    (hstack : g.stack = argsL.reverse ++ rest) (hW : 2 * g.monitorRoom + (rest.map fun v => v.category).sum ≤ W9) (hdg : decode c.code g.pc = .ok (.invokestatic index, 3))
    (hpre : ∀ vm₁, s.WarmedH vm₁ → Pre ⟨T.setVm vm₁, locs, cells, slots⟩ argsL.toArray) :
    (∃ (v : Option Value) (vm₁ : Vm) (B : Pt), s.WarmedH vm₁ ∧ Stand p l e R s m args below meth c B.U B.locs B.cells B.slots ∧ Post ⟨T.setVm vm₁, locs, cells, slots⟩ argsL.toArray v B ∧
      ∀ target, Steps p.tables e below (B.U.setTop { g with pc := g.pc + 3, stack := v.toList ++ rest }) target → Steps p.tables e below (T.setTop g) target) ∨
    (∃ (q : Addr) (vm₁ : Vm) (B : Pt), s.WarmedH vm₁ ∧ Stand p l e R s m args below meth c B.U B.locs B.cells B.slots ∧ PostX ⟨T.setVm vm₁, locs, cells, slots⟩ argsL.toArray q B ∧
      Steps p.tables e below (T.setTop g) ((B.U.setTop { g with stack := rest }).pushFrame (.throwing q))) := by
  obtain ⟨mk, hnamed⟩ := Cond.code_named hcode
  obtain ⟨methM, cM, hmethM, -, -, -, -, -, -, hsigM⟩ := Cond.code_spec hnamed hcode
  have hstatic : methM.isStatic = true := Cond.static_spec hnamed hmethM hstat
  obtain ⟨kP, hkP, -⟩ := className_of_methodNamed hnamed
  have hinitP : kP.init = .initialized := Cond.initialized_spec (findClass_of_methodNamed hnamed) hkP hinit
  obtain ⟨vm₁, X₁, hstep₁⟩ := X.invokestatic hexec hown hlink hnamed hmethM hstatic hkP hinitP hy (g := g) hg (argsL := argsL) (rest := rest) (hlen _ hsigM) hstack hdg
  rcases hK m meth c ⟨T.setVm vm₁, locs, cells, slots⟩ { g with stack := rest } (.invokestatic index) mk argsL.toArray X₁ hg hsize hdg hW (X₁.named hnamed) (hpre vm₁ X₁.warmed) with ⟨v, B, X', hpost, hsteps⟩ | ⟨q, B, X', hpost, hsteps⟩
  · exact Or.inl ⟨v, vm₁, B, X₁.warmed, X', hpost, fun target h => hstep₁ _ fun acts => by rw [doInvoke_state]; exact hsteps.trans h⟩
  · exact Or.inr ⟨q, vm₁, B, X₁.warmed, X', hpost, hstep₁ _ fun acts => by rw [doInvoke_state]; exact hsteps⟩
end Calls
theorem vx_cls {s : State} {T : State} {vm₁ : Vm} {E : String} {k : ClassId} (hW : s.WarmedH vm₁) (h : (T.setVm vm₁).vm.findClass E = some k) : s.vm.findClass E = some k := by
  have h1 : vm₁.findClass E = some k := h
  rw [hW.alike.findClass] at h1
  exact h1
/-- the method's frame g, with q thrown over it -/
def vx_W (p : Program) (l : Launch) (e : Env) (R : Room) (s : State) (m : MethodId) (args : Array Value) (below : List Frame) (meth : Method) (c : Code) (H : Heap) (locs : List Loc) (cells slots : Nat) (Q : State → Prop) (g : JFrame) (q : Addr) : Prop :=
  ∀ T : State, T.heap = H → Stand p l e R s m args below meth c T locs cells slots → ∃ t, Steps p.tables e below ((T.setTop g).pushFrame (.throwing q)) t ∧ Q t
def vx_Run (p : Program) (l : Launch) (e : Env) (R : Room) (s : State) (m : MethodId) (args : Array Value) (below : List Frame) (meth : Method) (c : Code) (H : Heap) (locs : List Loc) (cells slots mc ms : Nat) (g : JFrame) (rest : List Value) (Qa : State → Outcome → State → Prop) (XC : String → State → State → Prop) (free : Addr → Prop) : Prop :=
  ∀ T : State, T.heap = H → Stand p l e R s m args below meth c T locs cells slots →
    (∃ (v : Option Value) (st₀ t T' : State) (L : List Loc), st₀.heap = H ∧ Stand p l e R s m args below meth c T' (locs ++ L) (cells + mc) (slots + ms) ∧ (∀ q ∈ L, free q.base) ∧ T'.heap = t.heap ∧ T'.vm = t.vm ∧ Qa st₀ (.returned v) t ∧
      Goes p e below T g T' { g with pc := g.pc + 3, stack := v.toList ++ rest }) ∨
    (∃ (q : Addr) (st₀ t T' : State) (L : List Loc) (E : String) (ce : Cell), st₀.heap = H ∧ Stand p l e R s m args below meth c T' (locs ++ L) (cells + mc) (slots + ms) ∧ (∀ z ∈ L, free z.base) ∧ T'.heap = t.heap ∧ T'.vm = t.vm ∧ XC E st₀ t ∧ t.heap[q]? = some ce ∧ ce.vm = .none ∧ s.vm.findClass E = some ce.cls ∧
      Steps p.tables e below (T.setTop g) ((T'.setTop { g with stack := rest }).pushFrame (.throwing q)))
def vx_X {S : Type} (px : S → Prop) (B : String → S → State → Prop) (A : Nat → Prop) : String → State → State → Prop := fun E st t => ∃ u : S, px u ∧ B E u t ∧ va_F A st t
section Runs
variable {p : Program} {l : Launch} {e : Env} {R : Room} {s : State} {m : MethodId} {args : Array Value} {below : List Frame} {meth : Method} {c : Code} {H : Heap} {locs : List Loc} {cells slots : Nat}
variable {y : MethodName} {bytes cc : ByteArray} {maxL nL mc ms n index : Nat} {ret : Option FieldType} {ws : List Cond} {rm : Room} {Pc : Array Value → State → Prop} {Qc : Array Value → State → Outcome → State → Prop} {XC : String → State → State → Prop} {free : Addr → Prop} {Ts : List Cond} {own C : String} {b : Addr} {As rest : List Value} {g : JFrame}
theorem vx_callBack (cb : CallB R s args own index y bytes maxL ret ws rm mc ms n) (hM : vx_Met l y ws rm Pc Qc XC mc ms free) (hbl : FrameBlind Pc) : vx_Back l R p e below s args y 3 8 (PreOf R mc ms Pc) (PostOf Qc mc ms free) (vx_Post XC mc ms free) := by
  obtain ⟨hrc, hrs, hfr, hlo, hws, hcw, -, hini, -⟩ := cb
  exact vx_back (bytes := bytes) (maxL := maxL) (ret := ret) hM hbl hrc hrs hfr hlo hws hcw (fun a' U hW => word_at hW (Or.inl (by first | rfl | simp [Cond.onTables, Cond.keeps, Cond.steady])) hini)
theorem vx_runV (S : CallFix p m c cc nL s args Ts own) (hM : vx_Met l y ws rm Pc Qc XC mc ms free) (cw : CallW R s args own C index y bytes maxL ret ws rm mc ms n) (hp : PreV s H C b Pc As)
    (hg : g.method = m) (hn : As.length = n) (hsize : g.locals.size = nL) (hstack : g.stack = As.reverse ++ .ref b :: rest) (hW : 2 * g.monitorRoom + (rest.map fun v => v.category).sum ≤ 8) (hdg : decode cc g.pc = .ok (.invokevirtual index, 3)) (hf : cells + mc ≤ R.cells ∧ slots + ms ≤ R.slots) :
    vx_Run p l e R s m args below meth c H locs cells slots mc ms g rest (Qc (Value.ref b :: As).toArray) XC free := by
  have hK : vx_Back l R p e below s args y 3 8 (PreOf R mc ms Pc) (PostOf Qc mc ms free) (vx_Post XC mc ms free) := vx_callBack cw.1 hM hp.1
  obtain ⟨⟨-, -, -, -, -, -, hcode, -, hy, hlen, hl⟩, hin, hse⟩ := cw
  obtain ⟨hx, hb, hml, ho, -⟩ := S
  obtain ⟨-, ⟨cellB, hcB, hoB, hclB⟩, hPc⟩ := hp
  intro T hT X
  rcases vx_callV X hx (C := C) (bytes := bytes) (maxL := maxL) (ret := ret) ho hl hin hse hcode hy hK (by rw [hT]; exact hcB) hoB hclB hg (hsize.trans hml.symm) (argsL := As) (rest := rest) (fun sig h => hn.trans (hlen sig h)) hstack hW (by rw [hb]; exact hdg)
    (fun vm₁ hW₁ => ⟨hf.1, hf.2, hPc (T.setVm vm₁) hT hW₁⟩) with ⟨v, vm₁, ⟨U', l2, c2, s2⟩, hW₁, X', ⟨g', mk, t, L, e1, e2, hq, h1, hL, h2, h3⟩, st⟩ | ⟨q, vm₁, ⟨U', l2, c2, s2⟩, hW₁, X', ⟨g', mk, t, L, E, ce, e1, e2, hq, hce, hcv, hcl, h1, hL, h2, h3⟩, st⟩
  · dsimp only [Pt.U, Pt.locs, Pt.cells, Pt.slots] at X' e1 e2 h1 h2 h3 st
    subst h1; subst h2; subst h3
    exact Or.inl ⟨v, (T.setVm vm₁).calling g' mk (Value.ref b :: As).toArray, t, U', L, hT, X', hL, e1, e2, hq, st⟩
  · dsimp only [Pt.U, Pt.locs, Pt.cells, Pt.slots] at X' e1 e2 h1 h2 h3 st hcl
    subst h1; subst h2; subst h3
    exact Or.inr ⟨q, (T.setVm vm₁).calling g' mk (Value.ref b :: As).toArray, t, U', L, E, ce, hT, X', hL, e1, e2, hq, hce, hcv, vx_cls hW₁ hcl, st⟩
theorem vx_runS (S : CallFix p m c cc nL s args Ts own) (hM : vx_Met l y ws rm Pc Qc XC mc ms free) (cw : CallB R s args own index y bytes maxL ret ws rm mc ms n ∧ (Cond.static y).before args s = true) (hp : PreS s H Pc As)
    (hg : g.method = m) (hn : As.length = n) (hsize : g.locals.size = nL) (hstack : g.stack = As.reverse ++ rest) (hW : 2 * g.monitorRoom + (rest.map fun v => v.category).sum ≤ 8) (hdg : decode cc g.pc = .ok (.invokestatic index, 3)) (hf : cells + mc ≤ R.cells ∧ slots + ms ≤ R.slots) :
    vx_Run p l e R s m args below meth c H locs cells slots mc ms g rest (Qc As.toArray) XC free := by
  have hK : vx_Back l R p e below s args y 3 8 (PreOf R mc ms Pc) (PostOf Qc mc ms free) (vx_Post XC mc ms free) := vx_callBack cw.1 hM hp.1
  obtain ⟨⟨-, -, -, -, -, -, hcode, hini, hy, hlen, hl⟩, hstt⟩ := cw
  obtain ⟨hx, hb, hml, ho, -⟩ := S
  intro T hT X
  rcases vx_callS X hx (bytes := bytes) (maxL := maxL) (ret := ret) ho hl hstt hini hcode hy hK hg (hsize.trans hml.symm) (argsL := As) (rest := rest) (fun sig h => hn.trans (hlen sig h)) hstack hW (by rw [hb]; exact hdg)
    (fun vm₁ hW₁ => ⟨hf.1, hf.2, hp.2 (T.setVm vm₁) hT hW₁⟩) with ⟨v, vm₁, ⟨U', l2, c2, s2⟩, hW₁, X', ⟨g', mk, t, L, e1, e2, hq, h1, hL, h2, h3⟩, st⟩ | ⟨q, vm₁, ⟨U', l2, c2, s2⟩, hW₁, X', ⟨g', mk, t, L, E, ce, e1, e2, hq, hce, hcv, hcl, h1, hL, h2, h3⟩, st⟩
  · dsimp only [Pt.U, Pt.locs, Pt.cells, Pt.slots] at X' e1 e2 h1 h2 h3 st
    subst h1; subst h2; subst h3
    exact Or.inl ⟨v, (T.setVm vm₁).calling g' mk As.toArray, t, U', L, hT, X', hL, e1, e2, hq, st⟩
  · dsimp only [Pt.U, Pt.locs, Pt.cells, Pt.slots] at X' e1 e2 h1 h2 h3 st hcl
    subst h1; subst h2; subst h3
    exact Or.inr ⟨q, (T.setVm vm₁).calling g' mk As.toArray, t, U', L, E, ce, hT, X', hL, e1, e2, hq, hce, hcv, vx_cls hW₁ hcl, st⟩
end Runs
section Rows
variable {p : Program} {l : Launch} {e : Env} {R : Room} {s : State} {m : MethodId} {args : Array Value} {below : List Frame} {meth : Method} {c : Code} {H : Heap} {locs : List Loc} {cells slots : Nat} {Q : State → Prop}
variable {mc ms : Nat} {free : Addr → Prop} {A0 A1 : Nat → Prop} {H0 : Heap} {a : Array Value} {pc : Nat} {ls : Array Slot} {st0 rest : List Value}
theorem vx_keep {st₀ t T' : State} {L : List Loc} (h0 : st₀.heap = H) (e1 : T'.heap = t.heap) (hS : va_S A0 H0 H locs) (hA : ∀ q, q < H.size → A1 q → A0 q) (hf : ∀ q, free q → A0 q) (hL : ∀ q ∈ L, free q.base) (hF : va_F A1 st₀ t) :
    H.size ≤ T'.heap.size ∧ (∀ q : Nat, q < H.size → ¬ A1 q → T'.heap[q]? = H[q]?) ∧ va_S A0 H0 T'.heap (locs ++ L) := by
  obtain ⟨hz, hk⟩ := hF
  rw [h0] at hz hk
  exact ⟨by rw [e1]; exact hz, fun q h1 h2 => by rw [e1]; exact hk q h1 h2,
    ⟨Nat.le_trans hS.1 (by rw [e1]; exact hz), fun q h1 h2 => by rw [e1, hk q (Nat.lt_of_lt_of_le h1 hS.1) (fun z => h2 (hA q (Nat.lt_of_lt_of_le h1 hS.1) z))]; exact hS.2.1 q h1 h2, fun q hq => by
      rcases List.mem_append.mp hq with h | h
      · exact hS.2.2 q h
      · exact hf _ (hL q h)⟩⟩
theorem vx_calli {S SX : Type} {post : Int32 → S → Prop} {px : SX → Prop} {B : S → State → Prop} {BX : String → SX → State → Prop} {AX : Nat → Prop} (hr : vx_Run p l e R s m args below meth c H locs cells slots mc ms (F0 m pc ls st0) rest (va_Qi post B A1 a) (vx_X px BX AX) free) (hS : va_S A0 H0 H locs) (hA : ∀ q, q < H.size → A1 q → A0 q) (hf : ∀ q, free q → A0 q) (hAX : ∀ q, q < H.size → AX q → A0 q)
    (kx : ∀ (E : String) (ce : Cell) (q9 : Addr) (u : SX) (t : State) (H1 : Heap) (locs1 : List Loc), t.heap = H1 → s.vm.Alike t.vm → px u → BX E u t → H.size ≤ H1.size → (∀ q : Nat, q < H.size → ¬ AX q → H1[q]? = H[q]?) → va_S A0 H0 H1 locs1 → H1[q9]? = some ce → ce.vm = .none → s.vm.findClass E = some ce.cls → vx_W p l e R s m args below meth c H1 locs1 (cells + mc) (slots + ms) Q (F0 m pc ls rest) q9)
    (kk : ∀ (r : Int32) (u : S) (t : State) (H1 : Heap) (locs1 : List Loc), t.heap = H1 → s.vm.Alike t.vm → post r u → B u t → H.size ≤ H1.size → (∀ q : Nat, q < H.size → ¬ A1 q → H1[q]? = H[q]?) → va_S A0 H0 H1 locs1 → W p l e R s m args below meth c H1 locs1 (cells + mc) (slots + ms) Q (F0 m (pc + 3) ls (.int r :: rest))) : W p l e R s m args below meth c H locs cells slots Q (F0 m pc ls st0) := by
  intro T hT X
  rcases hr T hT X with ⟨v, st₀, t, T', L, h0, X', hL, e1, e2, ⟨⟨r, u, hv, hp, hb⟩, hF⟩, st⟩ | ⟨q, st₀, t, T', L, E, ce, h0, X', hL, e1, e2, ⟨u, hp, hb, hF⟩, hce, hcv, hcl, st⟩
  · cases hv
    obtain ⟨k1, k2, k3⟩ := vx_keep h0 e1 hS hA hf hL hF
    obtain ⟨t2, a1, b1⟩ := kk r u t T'.heap (locs ++ L) e1.symm (by rw [← e2]; exact X'.warmed.alike) hp hb k1 k2 k3 T' rfl X'
    exact ⟨t2, st t2 a1, b1⟩
  · obtain ⟨k1, k2, k3⟩ := vx_keep h0 e1 hS hAX hf hL hF
    obtain ⟨t2, a1, b1⟩ := kx E ce q u t T'.heap (locs ++ L) e1.symm (by rw [← e2]; exact X'.warmed.alike) hp hb k1 k2 k3 (by rw [e1]; exact hce) hcv hcl T' rfl X'
    exact ⟨t2, st.trans a1, b1⟩
theorem vx_calll {S SX : Type} {post : Int64 → S → Prop} {px : SX → Prop} {B : S → State → Prop} {BX : String → SX → State → Prop} {AX : Nat → Prop} (hr : vx_Run p l e R s m args below meth c H locs cells slots mc ms (F0 m pc ls st0) rest (va_Ql post B A1 a) (vx_X px BX AX) free) (hS : va_S A0 H0 H locs) (hA : ∀ q, q < H.size → A1 q → A0 q) (hf : ∀ q, free q → A0 q) (hAX : ∀ q, q < H.size → AX q → A0 q)
    (kx : ∀ (E : String) (ce : Cell) (q9 : Addr) (u : SX) (t : State) (H1 : Heap) (locs1 : List Loc), t.heap = H1 → s.vm.Alike t.vm → px u → BX E u t → H.size ≤ H1.size → (∀ q : Nat, q < H.size → ¬ AX q → H1[q]? = H[q]?) → va_S A0 H0 H1 locs1 → H1[q9]? = some ce → ce.vm = .none → s.vm.findClass E = some ce.cls → vx_W p l e R s m args below meth c H1 locs1 (cells + mc) (slots + ms) Q (F0 m pc ls rest) q9)
    (kk : ∀ (r : Int64) (u : S) (t : State) (H1 : Heap) (locs1 : List Loc), t.heap = H1 → s.vm.Alike t.vm → post r u → B u t → H.size ≤ H1.size → (∀ q : Nat, q < H.size → ¬ A1 q → H1[q]? = H[q]?) → va_S A0 H0 H1 locs1 → W p l e R s m args below meth c H1 locs1 (cells + mc) (slots + ms) Q (F0 m (pc + 3) ls (.long r :: rest))) : W p l e R s m args below meth c H locs cells slots Q (F0 m pc ls st0) := by
  intro T hT X
  rcases hr T hT X with ⟨v, st₀, t, T', L, h0, X', hL, e1, e2, ⟨⟨r, u, hv, hp, hb⟩, hF⟩, st⟩ | ⟨q, st₀, t, T', L, E, ce, h0, X', hL, e1, e2, ⟨u, hp, hb, hF⟩, hce, hcv, hcl, st⟩
  · cases hv
    obtain ⟨k1, k2, k3⟩ := vx_keep h0 e1 hS hA hf hL hF
    obtain ⟨t2, a1, b1⟩ := kk r u t T'.heap (locs ++ L) e1.symm (by rw [← e2]; exact X'.warmed.alike) hp hb k1 k2 k3 T' rfl X'
    exact ⟨t2, st t2 a1, b1⟩
  · obtain ⟨k1, k2, k3⟩ := vx_keep h0 e1 hS hAX hf hL hF
    obtain ⟨t2, a1, b1⟩ := kx E ce q u t T'.heap (locs ++ L) e1.symm (by rw [← e2]; exact X'.warmed.alike) hp hb k1 k2 k3 (by rw [e1]; exact hce) hcv hcl T' rfl X'
    exact ⟨t2, st.trans a1, b1⟩
theorem vx_callf {S SX : Type} {post : UInt32 → S → Prop} {px : SX → Prop} {B : S → State → Prop} {BX : String → SX → State → Prop} {AX : Nat → Prop} (hr : vx_Run p l e R s m args below meth c H locs cells slots mc ms (F0 m pc ls st0) rest (va_Qf post B A1 a) (vx_X px BX AX) free) (hS : va_S A0 H0 H locs) (hA : ∀ q, q < H.size → A1 q → A0 q) (hf : ∀ q, free q → A0 q) (hAX : ∀ q, q < H.size → AX q → A0 q)
    (kx : ∀ (E : String) (ce : Cell) (q9 : Addr) (u : SX) (t : State) (H1 : Heap) (locs1 : List Loc), t.heap = H1 → s.vm.Alike t.vm → px u → BX E u t → H.size ≤ H1.size → (∀ q : Nat, q < H.size → ¬ AX q → H1[q]? = H[q]?) → va_S A0 H0 H1 locs1 → H1[q9]? = some ce → ce.vm = .none → s.vm.findClass E = some ce.cls → vx_W p l e R s m args below meth c H1 locs1 (cells + mc) (slots + ms) Q (F0 m pc ls rest) q9)
    (kk : ∀ (r : UInt32) (u : S) (t : State) (H1 : Heap) (locs1 : List Loc), t.heap = H1 → s.vm.Alike t.vm → post r u → B u t → H.size ≤ H1.size → (∀ q : Nat, q < H.size → ¬ A1 q → H1[q]? = H[q]?) → va_S A0 H0 H1 locs1 → W p l e R s m args below meth c H1 locs1 (cells + mc) (slots + ms) Q (F0 m (pc + 3) ls (.float r :: rest))) : W p l e R s m args below meth c H locs cells slots Q (F0 m pc ls st0) := by
  intro T hT X
  rcases hr T hT X with ⟨v, st₀, t, T', L, h0, X', hL, e1, e2, ⟨⟨r, u, hv, hp, hb⟩, hF⟩, st⟩ | ⟨q, st₀, t, T', L, E, ce, h0, X', hL, e1, e2, ⟨u, hp, hb, hF⟩, hce, hcv, hcl, st⟩
  · cases hv
    obtain ⟨k1, k2, k3⟩ := vx_keep h0 e1 hS hA hf hL hF
    obtain ⟨t2, a1, b1⟩ := kk r u t T'.heap (locs ++ L) e1.symm (by rw [← e2]; exact X'.warmed.alike) hp hb k1 k2 k3 T' rfl X'
    exact ⟨t2, st t2 a1, b1⟩
  · obtain ⟨k1, k2, k3⟩ := vx_keep h0 e1 hS hAX hf hL hF
    obtain ⟨t2, a1, b1⟩ := kx E ce q u t T'.heap (locs ++ L) e1.symm (by rw [← e2]; exact X'.warmed.alike) hp hb k1 k2 k3 (by rw [e1]; exact hce) hcv hcl T' rfl X'
    exact ⟨t2, st.trans a1, b1⟩
theorem vx_calld {S SX : Type} {post : UInt64 → S → Prop} {px : SX → Prop} {B : S → State → Prop} {BX : String → SX → State → Prop} {AX : Nat → Prop} (hr : vx_Run p l e R s m args below meth c H locs cells slots mc ms (F0 m pc ls st0) rest (va_Qd post B A1 a) (vx_X px BX AX) free) (hS : va_S A0 H0 H locs) (hA : ∀ q, q < H.size → A1 q → A0 q) (hf : ∀ q, free q → A0 q) (hAX : ∀ q, q < H.size → AX q → A0 q)
    (kx : ∀ (E : String) (ce : Cell) (q9 : Addr) (u : SX) (t : State) (H1 : Heap) (locs1 : List Loc), t.heap = H1 → s.vm.Alike t.vm → px u → BX E u t → H.size ≤ H1.size → (∀ q : Nat, q < H.size → ¬ AX q → H1[q]? = H[q]?) → va_S A0 H0 H1 locs1 → H1[q9]? = some ce → ce.vm = .none → s.vm.findClass E = some ce.cls → vx_W p l e R s m args below meth c H1 locs1 (cells + mc) (slots + ms) Q (F0 m pc ls rest) q9)
    (kk : ∀ (r : UInt64) (u : S) (t : State) (H1 : Heap) (locs1 : List Loc), t.heap = H1 → s.vm.Alike t.vm → post r u → B u t → H.size ≤ H1.size → (∀ q : Nat, q < H.size → ¬ A1 q → H1[q]? = H[q]?) → va_S A0 H0 H1 locs1 → W p l e R s m args below meth c H1 locs1 (cells + mc) (slots + ms) Q (F0 m (pc + 3) ls (.double r :: rest))) : W p l e R s m args below meth c H locs cells slots Q (F0 m pc ls st0) := by
  intro T hT X
  rcases hr T hT X with ⟨v, st₀, t, T', L, h0, X', hL, e1, e2, ⟨⟨r, u, hv, hp, hb⟩, hF⟩, st⟩ | ⟨q, st₀, t, T', L, E, ce, h0, X', hL, e1, e2, ⟨u, hp, hb, hF⟩, hce, hcv, hcl, st⟩
  · cases hv
    obtain ⟨k1, k2, k3⟩ := vx_keep h0 e1 hS hA hf hL hF
    obtain ⟨t2, a1, b1⟩ := kk r u t T'.heap (locs ++ L) e1.symm (by rw [← e2]; exact X'.warmed.alike) hp hb k1 k2 k3 T' rfl X'
    exact ⟨t2, st t2 a1, b1⟩
  · obtain ⟨k1, k2, k3⟩ := vx_keep h0 e1 hS hAX hf hL hF
    obtain ⟨t2, a1, b1⟩ := kx E ce q u t T'.heap (locs ++ L) e1.symm (by rw [← e2]; exact X'.warmed.alike) hp hb k1 k2 k3 (by rw [e1]; exact hce) hcv hcl T' rfl X'
    exact ⟨t2, st.trans a1, b1⟩
theorem vx_callv {S SX : Type} {post : S → Prop} {px : SX → Prop} {B : S → State → Prop} {BX : String → SX → State → Prop} {AX : Nat → Prop} (hr : vx_Run p l e R s m args below meth c H locs cells slots mc ms (F0 m pc ls st0) rest (va_Qv post B A1 a) (vx_X px BX AX) free) (hS : va_S A0 H0 H locs) (hA : ∀ q, q < H.size → A1 q → A0 q) (hf : ∀ q, free q → A0 q) (hAX : ∀ q, q < H.size → AX q → A0 q)
    (kx : ∀ (E : String) (ce : Cell) (q9 : Addr) (u : SX) (t : State) (H1 : Heap) (locs1 : List Loc), t.heap = H1 → s.vm.Alike t.vm → px u → BX E u t → H.size ≤ H1.size → (∀ q : Nat, q < H.size → ¬ AX q → H1[q]? = H[q]?) → va_S A0 H0 H1 locs1 → H1[q9]? = some ce → ce.vm = .none → s.vm.findClass E = some ce.cls → vx_W p l e R s m args below meth c H1 locs1 (cells + mc) (slots + ms) Q (F0 m pc ls rest) q9)
    (kk : ∀ (u : S) (t : State) (H1 : Heap) (locs1 : List Loc), t.heap = H1 → s.vm.Alike t.vm → post u → B u t → H.size ≤ H1.size → (∀ q : Nat, q < H.size → ¬ A1 q → H1[q]? = H[q]?) → va_S A0 H0 H1 locs1 → W p l e R s m args below meth c H1 locs1 (cells + mc) (slots + ms) Q (F0 m (pc + 3) ls (rest))) : W p l e R s m args below meth c H locs cells slots Q (F0 m pc ls st0) := by
  intro T hT X
  rcases hr T hT X with ⟨v, st₀, t, T', L, h0, X', hL, e1, e2, ⟨⟨u, hv, hp, hb⟩, hF⟩, st⟩ | ⟨q, st₀, t, T', L, E, ce, h0, X', hL, e1, e2, ⟨u, hp, hb, hF⟩, hce, hcv, hcl, st⟩
  · cases hv
    obtain ⟨k1, k2, k3⟩ := vx_keep h0 e1 hS hA hf hL hF
    obtain ⟨t2, a1, b1⟩ := kk u t T'.heap (locs ++ L) e1.symm (by rw [← e2]; exact X'.warmed.alike) hp hb k1 k2 k3 T' rfl X'
    exact ⟨t2, st t2 a1, b1⟩
  · obtain ⟨k1, k2, k3⟩ := vx_keep h0 e1 hS hAX hf hL hF
    obtain ⟨t2, a1, b1⟩ := kx E ce q u t T'.heap (locs ++ L) e1.symm (by rw [← e2]; exact X'.warmed.alike) hp hb k1 k2 k3 (by rw [e1]; exact hce) hcv hcl T' rfl X'
    exact ⟨t2, st.trans a1, b1⟩
/-- caught by the row x of this method's table; the rows ahead don't take it -/
theorem vx_catch {own name : String} {E : String} {ce : Cell} {q : Addr} (hown : s.vm.findClass own = some m.cls) (pre : List ExceptionTableEntry) (x : ExceptionTableEntry) (suf : List ExceptionTableEntry) (hsplit : c.exceptionTable.toList = pre ++ x :: suf)
    (hpass : ∀ z ∈ pre, covers z pc = false ∨ (z.catchType ≠ 0 ∧ ∃ nm : String, (Cond.classLink own z.catchType nm).before args s = true ∧ va_Nc E nm s)) (hx : covers x pc = true) (h0 : x.catchType ≠ 0)
    (hlink : (Cond.classLink own x.catchType name).before args s = true) (hcast : (Cond.castable E name).before args s = true) (hcell : H[q]? = some ce) (hv : ce.vm = .none) (hcl : s.vm.findClass E = some ce.cls)
    (kk : W p l e R s m args below meth c H locs cells slots Q (F0 m x.handlerPc ls [.ref q])) : vx_W p l e R s m args below meth c H locs cells slots Q (F0 m pc ls rest) q := by
  intro T hT X
  have hpl : e.platform.magicAccessors = ({} : Platform).magicAccessors := by rw [X.admits.platform]
  obtain ⟨c3, c4, hc3, hc4, hasg⟩ := Cond.castable_spec hcast
  cases Option.some.inj (hc3.symm.trans hcl)
  obtain ⟨c5, hc5, hcl5⟩ := Cond.classLink_spec hown hlink e.platform hpl
  cases Option.some.inj (hc4.symm.trans hc5)
  obtain ⟨vm', X', st⟩ := X.thenCaughtThrough q (g := F0 m pc ls rest) rfl (Steps.refl _) (by rw [hT]; exact hcell) (by rw [hv]; rfl) (by obtain ⟨k9, h9, -⟩ := Vm.findClass_spec hcl; exact ⟨k9, h9⟩) pre x suf hsplit
    (fun z hz => by
      rcases hpass z hz with h | ⟨hz0, nm, hl1, hn1⟩
      · exact Or.inl h
      · obtain ⟨c6, hc6, hcl6⟩ := Cond.classLink_spec hown hl1 e.platform hpl
        obtain ⟨a8, b8, h1, h2, h3⟩ := hn1
        cases Option.some.inj (h1.symm.trans hcl)
        cases Option.some.inj (h2.symm.trans hc6)
        exact Or.inr ⟨hz0, _, hcl6, h3⟩) hx (Or.inr ⟨h0, c4, hcl5, hasg⟩)
  obtain ⟨t, a1, b1⟩ := kk (T.setVm vm') hT X'
  exact ⟨t, st.trans a1, b1⟩
end Rows
section Ends
variable {p : Program} {l : Launch} {e : Env} {R : Room} {s : State} {m : MethodId} {args : Array Value} {below : List Frame} {meth : Method} {c : Code} {H : Heap} {locs : List Loc} {cells slots : Nat} {Q : State → Prop}
variable {mc ms : Nat} {free : Addr → Prop} {A0 A1 : Nat → Prop} {H0 : Heap} {a : Array Value} {ls : Array Slot} {st0 rest : List Value}
variable {Qc : Array Value → State → Outcome → State → Prop} {XC : String → State → State → Prop}
/-- what a body that may throw owes at its end -/
def vx_MQ (below : List Frame) (Qc : Array Value → State → Outcome → State → Prop) (XC : String → State → State → Prop) (a : Array Value) (s : State) (mc ms : Nat) (free : Addr → Prop) : State → Prop := fun t =>
  ∃ o, t.status = .running ∧ Ended t below o ∧ vx_Q Qc XC mc ms free a s o t
theorem vx_ret {g : JFrame} {mc ms : Nat} (k : W p l e R s m args below meth c H locs cells slots (MQ below Qc args s mc ms free) g) : W p l e R s m args below meth c H locs cells slots (vx_MQ below Qc XC args s mc ms free) g := by
  intro T hT X
  obtain ⟨t, a1, o, b1, b2, b3, b4⟩ := k T hT X
  exact ⟨t, a1, o, b1, b2, Or.inl ⟨b3, b4⟩⟩
/-- not caught here: it goes on to the caller -/
theorem vx_widen {g : JFrame} {q : Addr} {k n : Nat} (h1 : cells ≤ k) (h2 : slots ≤ n) (kk : vx_W p l e R s m args below meth c H locs k n Q g q) : vx_W p l e R s m args below meth c H locs cells slots Q g q := fun T hT X => kk T hT (stand_widen X h1 h2)
theorem vx_out {pc : Nat} {E : String} {ce : Cell} {q : Addr} {mc ms : Nat} (hout : ∀ x ∈ c.exceptionTable.toList, covers x pc = false) (hlocks : meth.locks = false) (hcell : H[q]? = some ce) (hv : ce.vm = .none) (hcl : s.vm.findClass E = some ce.cls)
    (hx : ∀ t : State, t.heap = H → s.vm.Alike t.vm → XC E s t) (hf : ∀ z ∈ locs, free z.base) (hc : cells ≤ mc) (hs : slots ≤ ms) :
    vx_W p l e R s m args below meth c H locs cells slots (vx_MQ below Qc XC args s mc ms free) (F0 m pc ls rest) q := by
  intro T hT X
  obtain ⟨st1, hrun, hend, hW, hsm⟩ := X.leaveThrown q (g := F0 m pc ls rest) rfl rfl rfl hout hlocks
  have hcell9 : (T.setFrames (.throwing q :: below)).heap[q]? = some ce := by
    show T.heap[q]? = some ce
    rw [hT]; exact hcell
  exact ⟨_, st1, .threw q, hrun, hend, Or.inr ⟨q, rfl, E, ce, locs, hx _ hT hW.alike, hcell9, hv, hcl, hW, hsm.mono hc hs, hf⟩⟩
theorem vx_frame {U : State} {k n : Nat} (h : s.sameButNew ({ U with vm := s.vm } : State) locs k n) : s.heap.size ≤ U.heap.size ∧ ∀ q : Nat, q < s.heap.size → (∀ z ∈ locs, z.base ≠ q) → U.heap[q]? = s.heap[q]? := by
  obtain ⟨-, h2, -, -, -, h6⟩ := h
  refine ⟨h2, fun q hq hz => ?_⟩
  obtain ⟨c9, e1, e2, e3, e4⟩ := h6 q _ (Array.getElem?_eq_getElem hq)
  have hs : c9.slots = (s.heap[q]).slots := Array.ext_getElem? fun i => e4 i fun hm => hz _ hm rfl
  have h9 : c9 = s.heap[q] := by
    rw [hs] at e2
    exact e2
  have e5 : U.heap[q]? = some c9 := e1
  rw [e5, h9, Array.getElem?_eq_getElem hq]
/-- the words of a throw but the four that speak of the heap -/
def vx_no (w : Cond) : Bool := decide (w ≠ .isRef (.static Bundle.tN "UNASSIGNED_STACK" Bundle.steD)) && decide (w ≠ .isRef (.static Bundle.tN "SUPPRESSED_SENTINEL" Bundle.listD)) && decide (w ≠ .laysStatic Bundle.tN "UNASSIGNED_STACK" Bundle.steD) && decide (w ≠ .laysStatic Bundle.tN "SUPPRESSED_SENTINEL" Bundle.listD)
def vx_at0 (own : String) (ic : Nat) (X : String) (names : List String) : List Cond := (Bundle.ownAtoms0 own ic X names).filter vx_no
def vx_atS (own : String) (ic : Nat) (X : String) (names : List String) : List Cond := (Bundle.ownAtoms own ic X names).filter vx_no
/-- a word that the tables alone decide, or a good one -/
def vx_ot (w : Cond) : Bool := w.onTables || goodWord w
theorem vx_ot_at {args a' : Array Value} {s U : State} {w : Cond} (hW : s.WarmedH U.vm) (hvm : s.vm = U.vm) (hg : vx_ot w = true) (h : w.before args s = true) : w.before a' U = true := by
  simp only [vx_ot, Bool.or_eq_true] at hg
  rcases hg with hg | hg
  · exact va_tabs hg hvm h
  · exact word_at hW (good_of_word hg) h
/-- a list's words: the good ones out of the method's own list, the others by premises of their own -/
theorem vx_hat {args : Array Value} {s : State} {L B : List Cond} (h1 : ∀ w ∈ L.filter goodWord, w.before args s = true) (h2 : ∀ w ∈ L.filter (fun w => !goodWord w), w ∈ B) (h3 : ∀ w ∈ B, w.before args s = true) : ∀ w ∈ L, w.before args s = true := by
  intro w hw
  by_cases g : goodWord w = true
  · exact h1 w (List.mem_filter.mpr ⟨hw, g⟩)
  · refine h3 w (h2 w (List.mem_filter.mpr ⟨hw, ?_⟩))
    show (!goodWord w) = true
    cases hgw : goodWord w
    · rfl
    · exact absurd hgw g
theorem vx_c {args : Array Value} {s : State} {w : Cond} {B : List Cond} (h : w.before args s = true) (t : ∀ w ∈ B, w.before args s = true) : ∀ w' ∈ w :: B, w'.before args s = true := fun w' h' => (List.mem_cons.mp h').elim (fun e => by rw [e]; exact h) (t w')
theorem vx_n {args : Array Value} {s : State} : ∀ w ∈ ([] : List Cond), w.before args s = true := fun _ h => nomatch h
theorem vx_own {args : Array Value} {s : State} {L : List Cond} (h1 : ∀ w ∈ L.filter vx_no, w.before args s = true)
    (hU : (Cond.isRef (.static Bundle.tN "UNASSIGNED_STACK" Bundle.steD)).before args s = true) (hN : (Cond.isRef (.static Bundle.tN "SUPPRESSED_SENTINEL" Bundle.listD)).before args s = true)
    (lU : (Cond.laysStatic Bundle.tN "UNASSIGNED_STACK" Bundle.steD).before args s = true) (lN : (Cond.laysStatic Bundle.tN "SUPPRESSED_SENTINEL" Bundle.listD).before args s = true) : ∀ w ∈ L, w.before args s = true := by
  intro w hw
  by_cases e1 : w = .isRef (.static Bundle.tN "UNASSIGNED_STACK" Bundle.steD)
  · rw [e1]; exact hU
  · by_cases e2 : w = .isRef (.static Bundle.tN "SUPPRESSED_SENTINEL" Bundle.listD)
    · rw [e2]; exact hN
    · by_cases e3 : w = .laysStatic Bundle.tN "UNASSIGNED_STACK" Bundle.steD
      · rw [e3]; exact lU
      · by_cases e4 : w = .laysStatic Bundle.tN "SUPPRESSED_SENTINEL" Bundle.listD
        · rw [e4]; exact lN
        · exact h1 w (List.mem_filter.mpr ⟨hw, by unfold vx_no; rw [decide_eq_true e1, decide_eq_true e2, decide_eq_true e3, decide_eq_true e4]; rfl⟩)
/-- where a static field lies, its class's statics cell in H -/
def vx_L (C n d : String) (A : Nat → Prop) (U : State) (H : Heap) : Prop := ∃ (c : ClassId) (k : Class) (i : Nat) (f : Field) (a : Nat) (cell : Cell), U.vm.findClass C = some c ∧ U.fieldFound? C n d = some (c, k, i, f) ∧ f.isStatic = true ∧ k.statics = some a ∧ H[a]? = some cell ∧ cell.vm.isStatics = true ∧ cell.cls = c ∧ f.slot < cell.slots.size ∧ k.staticTypes[f.slot]? = some f.type ∧ ¬ A a
theorem vx_L.moved {C n d : String} {A : Nat → Prop} {u U : State} {H : Heap} (hvm : u.vm.Alike U.vm) (h : vx_L C n d A u H) : vx_L C n d A U H := by
  obtain ⟨c, k, i, f, a, cell, h1, h2, h3, h4, h5, h6, h7, h8, h9, h10⟩ := h
  obtain ⟨k', hi', he⟩ := State.fieldFound?_setVm hvm h2
  exact ⟨c, k', i, f, a, cell, by rw [hvm.findClass]; exact h1, hi', h3, by rw [he]; exact h4, h5, h6, h7, h8, by rw [he]; exact h9, h10⟩
theorem vx_L.kept {C n d : String} {A : Nat → Prop} {U : State} {H H1 : Heap} (h : vx_L C n d A U H) (hq : ∀ a : Nat, a < H.size → ¬ A a → H1[a]? = H[a]?) : vx_L C n d A U H1 := by
  obtain ⟨c, k, i, f, a, cell, h1, h2, h3, h4, h5, h6, h7, h8, h9, h10⟩ := h
  exact ⟨c, k, i, f, a, cell, h1, h2, h3, h4, by rw [hq a (Array.getElem?_eq_some_iff.mp h5).1 h10]; exact h5, h6, h7, h8, h9, h10⟩
theorem vx_L.narrow {C n d : String} {A B : Nat → Prop} {U : State} {H : Heap} (h : vx_L C n d A U H) (hAB : ∀ q, B q → A q) : vx_L C n d B U H := by
  obtain ⟨c, k, i, f, a, cell, h1, h2, h3, h4, h5, h6, h7, h8, h9, h10⟩ := h
  exact ⟨c, k, i, f, a, cell, h1, h2, h3, h4, h5, h6, h7, h8, h9, fun z => h10 (hAB _ z)⟩
theorem vx_L.word {C n d : String} {A : Nat → Prop} {s : State} {args : Array Value} (h : vx_L C n d A s s.heap) : (Cond.laysStatic C n d).before args s = true := by
  obtain ⟨c, k, i, f, a, cell, h1, h2, h3, h4, h5, h6, h7, h8, h9, -⟩ := h
  show (Cond.laysStatic C n d).holds args s none s [] = true
  exact Cond.laysStatic_of h1 h2 h3 h4 h5 h6 h7 h8 h9
/-- .. and what it holds: null or some reference -/
def vx_Zq (C n d : String) (A : Nat → Prop) (U : State) (H : Heap) : Prop := va_Zq C n d A U H ∧ vx_L C n d A U H
theorem vx_Zq.moved {C n d : String} {A : Nat → Prop} {u U : State} {H : Heap} (hvm : u.vm.Alike U.vm) (h : vx_Zq C n d A u H) : vx_Zq C n d A U H := ⟨va_Zq.moved hvm h.1, vx_L.moved hvm h.2⟩
theorem vx_Zq.kept {C n d : String} {A : Nat → Prop} {U : State} {H H1 : Heap} (h : vx_Zq C n d A U H) (hq : ∀ a : Nat, a < H.size → ¬ A a → H1[a]? = H[a]?) : vx_Zq C n d A U H1 := ⟨va_Zq.kept h.1 hq, vx_L.kept h.2 hq⟩
theorem vx_Zq.narrow {C n d : String} {A B : Nat → Prop} {U : State} {H : Heap} (h : vx_Zq C n d A U H) (hAB : ∀ q, B q → A q) : vx_Zq C n d B U H := ⟨va_Zq.narrow h.1 hAB, vx_L.narrow h.2 hAB⟩
theorem vx_Zqof {args : Array Value} {s : State} {C n d : String} {A : Nat → Prop} (hl : (Cond.laysStatic C n d).before args s = true) (hini : (Cond.initialized C).before args s = true) (h : (Cond.isRef (.static C n d)).before args s = true) (hA : ∀ a : Nat, a < s.heap.size → ¬ A a) : vx_Zq C n d A s s.heap := by
  refine ⟨va_Zqof hl hini h hA, ?_⟩
  obtain ⟨c, k, i, f, a, cell, h1, h2, h3, h4, h5, h6, h7, h8, h9⟩ := Cond.laysStatic_spec hl
  exact ⟨c, k, i, f, a, cell, h1, h2, h3, h4, h5, h6, h7, h8, h9, hA a (Array.getElem?_eq_some_iff.mp h5).1⟩
theorem vx_isRef {C n d : String} {v : Value} {A : Nat → Prop} {s : State} {args : Array Value} (h : va_Z C n d v A s s.heap) (hv : v.isRef = true) : (Cond.isRef (.static C n d)).before args s = true := by
  obtain ⟨cf, kf, fi, f, a, cell, h1, h2, h3, h4, h5, h6, h7, -⟩ := h
  have he : (Term.static C n d).eval args s none [] s = some v := by
    simp [Term.eval, State.fieldNamed?, h1, h2, h4, h5, h6, h7]
  simp only [Cond.before, Cond.holds, Cond.value, he]
  cases v <;> simp_all [Value.isRef]
theorem vx_isRefq {C n d : String} {A : Nat → Prop} {s : State} {args : Array Value} (h : va_Zq C n d A s s.heap) : (Cond.isRef (.static C n d)).before args s = true := by
  rcases h with h | ⟨t, h⟩
  · exact vx_isRef h rfl
  · exact vx_isRef h rfl
/-- the same frame, seen from here: as if the method were called anew in this heap -/
theorem vx_rebase {T : State} (X : Stand p l e R s m args below meth c T locs cells slots) {R' : Room} (hf : R'.frames ≤ R.frames) (hl : R'.locals ≤ R.locals) (hc : cells + R'.cells ≤ R.cells) (hs : slots + R'.slots ≤ R.slots) :
    Stand p l e R' ((T.setVm s.vm).setFrames (.invoking m args :: below)) m args below meth c T [] 0 0 := by
  have htop : (T.setVm s.vm).topJava?.isSome := X.here.top
  have hF : ((T.setVm s.vm).setFrames (.invoking m args :: below)).frames = .invoking m args :: below := State.frames_setFrames _ (State.cur_lt_of_top htop)
  obtain ⟨g₀, hg0⟩ := Option.isSome_iff_exists.mp htop
  obtain ⟨r, hr⟩ := State.topJava?_eq_some.mp hg0
  have hl9 : e.platform.stackLimits (T.setVm s.vm).me = e.platform.stackLimits s.me := X.limits
  have hb9 : (T.setVm s.vm).me.stackBytes = s.me.stackBytes := X.bytes
  refine ⟨X.admits, X.cas, X.clock, hF, ?_, X.hears, X.method, X.code, X.here, X.tail, X.warmed, ?_, ?_, ?_⟩
  · have h := X.room
    have hU : ((T.setVm s.vm).setFrames (.invoking m args :: below)).localsInUse = s.localsInUse := by
      rw [State.localsInUse_invoking hF (meth := meth) (c := c) X.method X.code, State.localsInUse_invoking X.frames X.method X.code]
    simp only [State.hasRoom, Bool.and_eq_true, decide_eq_true_eq] at h ⊢
    obtain ⟨⟨⟨⟨h1, h2, h3, h4, h5, h6⟩, h7⟩, h8⟩, h9⟩ := h
    rw [X.frames, List.length_cons] at h2 h3
    have q1 := X.heapSize
    have q2 := X.used
    simp only [hF, hU, List.length_cons, State.stackLimits_setFrames, State.stackBytes_setFrames, hl9, hb9]
    refine ⟨⟨⟨⟨by omega, by omega, by omega, by omega, by omega, h6⟩, ?_⟩, ?_⟩, X.book⟩
    · show T.heap.size + R'.cells ≤ e.platform.maxCells
      omega
    · show T.slotsUsed + R'.slots ≤ e.platform.maxSlots
      omega
  · rw [State.stackLimits_setFrames]; rfl
  · rw [State.stackBytes_setFrames]; rfl
  · refine ⟨?_, Nat.le_refl _, Nat.le_refl _, ?_, ?_, fun a c9 h9 => ⟨c9, h9, rfl, rfl, fun _ _ => rfl⟩⟩
    · obtain ⟨t, ht, -⟩ := State.frames_cons hr
      show T.setVm s.vm = { ((T.setVm s.vm).setFrames (.invoking m args :: below)).setFrames (T.setVm s.vm).frames with heap := T.heap, slotsUsed := T.slotsUsed }
      rw [State.setFrames_setFrames, State.setFrames_self ht]
      rfl
    · show T.slotsUsed = T.slotsUsed + ((T.heap.toList.drop T.heap.size).map (·.slots.size)).sum
      rw [List.drop_eq_nil_of_le (Nat.le_of_eq Array.length_toList)]
      rfl
    · show ((T.heap.toList.drop T.heap.size).map (·.slots.size)).sum ≤ 0
      rw [List.drop_eq_nil_of_le (Nat.le_of_eq Array.length_toList)]
      exact Nat.le_refl _
/-- 'throw new E()': new; dup; invokespecial; athrow -/
theorem vx_throw0 {cc : ByteArray} {pc : Nat} (hexec : p.tables.exec = Jvm.exec) (hb : c.code = cc) (hl : l.stackTraces = false) {own cls : String} {names : List String} {ik ic mc ms : Nat} {A : Nat → Prop}
    (hown : s.vm.findClass own = some m.cls) (hcls : Bundle.fit cls = true) (hnames : ∀ n ∈ names, Bundle.fit n = true)
    (hk : (Cond.classLink own ik cls).before args s = true) (hini : (Cond.initialized cls).before args s = true) (hat : ∀ w ∈ vx_at0 own ic cls names, w.before args s = true)
    (hgood : ∀ w ∈ Cond.classLink own ik cls :: Cond.initialized cls :: vx_at0 own ic cls names, vx_ot w = true)
    (hU : vx_Zq Bundle.tN "UNASSIGNED_STACK" Bundle.steD A s s.heap) (hN : vx_Zq Bundle.tN "SUPPRESSED_SENTINEL" Bundle.listD A s s.heap) (hS : va_S A s.heap H locs) (hsize : ls.size = c.maxLocals)
    (d0 : decode cc pc = .ok (.new ik, 3)) (d3 : decode cc (pc + 3) = .ok (.dup, 1)) (d4 : decode cc (pc + 4) = .ok (.invokespecial ic, 3)) (d7 : decode cc (pc + 7) = .ok (.athrow, 1))
    (hout : ∀ x ∈ c.exceptionTable.toList, covers x (pc + 7) = false)
    (hRframes : names.length + 3 < R.frames) (hRlocals : (rest.map fun v => v.category).sum + (13 * (names.length + 1) + 42) ≤ R.locals) (hRcells : cells + 1 ≤ R.cells) (hRslots : slots + 6 ≤ R.slots) (hlocks : meth.locks = false)
    (hx : ∀ t : State, s.vm.Alike t.vm → H.size ≤ t.heap.size → (∀ q : Nat, q < H.size → t.heap[q]? = H[q]?) → XC cls s t)
    (hf : ∀ z ∈ locs, free z.base) (hc : cells + 1 ≤ mc) (hs : slots + 6 ≤ ms) :
    W p l e R s m args below meth c H locs cells slots (vx_MQ below Qc XC args s mc ms free) (F0 m pc ls rest) := by
  intro T hT X
  have htr : e.platform.stackTraces = false := (show e.platform.stackTraces = l.stackTraces by rw [X.admits.platform]).trans hl
  have Y := vx_rebase X (R' := { frames := R.frames, locals := R.locals, cells := 1, slots := 6 }) (Nat.le_refl _) (Nat.le_refl _) hRcells hRslots
  obtain ⟨s', hA⟩ : ∃ z, z = (T.setVm s.vm).setFrames (.invoking m args :: below) := ⟨_, rfl⟩
  rw [← hA] at Y
  have hvm : s'.vm = s.vm := by rw [hA]; rfl
  have hhp : s'.heap = H := by rw [hA]; exact hT
  have hW0 : s.WarmedH s'.vm := by rw [hvm]; exact State.WarmedH.refl s
  have hat' : ∀ w ∈ vx_at0 own ic cls names, w.before args s' = true := fun w hw => vx_ot_at hW0 hvm.symm (hgood w (List.mem_cons_of_mem _ (List.mem_cons_of_mem _ hw))) (hat w hw)
  have hk' : (Cond.classLink own ik cls).before args s' = true := vx_ot_at hW0 hvm.symm (hgood _ List.mem_cons_self) hk
  have hini' : (Cond.initialized cls).before args s' = true := vx_ot_at hW0 hvm.symm (hgood _ (List.mem_cons_of_mem _ List.mem_cons_self)) hini
  have hU' : vx_Zq Bundle.tN "UNASSIGNED_STACK" Bundle.steD A s' s'.heap := by rw [hhp]; exact vx_Zq.moved hW0.alike (hU.kept hS.2.1)
  have hN' : vx_Zq Bundle.tN "SUPPRESSED_SENTINEL" Bundle.listD A s' s'.heap := by rw [hhp]; exact vx_Zq.moved hW0.alike (hN.kept hS.2.1)
  have h : ∀ w ∈ Bundle.ownAtoms0 own ic cls names, w.before args s' = true := vx_own hat' (vx_isRefq hU'.1) (vx_isRefq hN'.1) hU'.2.word hN'.2.word
  have hown' : s'.vm.findClass own = some m.cls := by rw [hvm]; exact hown
  have hins : (Cond.instantiable cls 6).before args s' = true := h _ (by simp [Bundle.ownAtoms0])
  obtain ⟨vm₁, cX, kX, hfX, hkX, -, -, X₁, st1⟩ := Y.newCold hexec (own := own) (C := cls) (index := ik) (n := 6) hown' hk' hins hini'
    (g := F0 m pc ls rest) rfl (by rw [hb]; exact d0) (Nat.le_refl _) (Nat.le_refl _)
  generalize hT1 : (T.setVm vm₁).pushCell { cls := cX, slots := kX.instanceTypes.map defaultValue, vm := .none } = T1 at X₁ st1
  have hcat : (Value.ref T.heap.size).category = 1 := rfl
  have hcellA : T1.heap[T.heap.size]? = some (freshCell cX kX) := by rw [← hT1]; exact State.heap_pushCell_size _ _
  have d3' : decode c.code (pc + 3) = .ok (.dup, 1) := by rw [hb]; exact d3
  obtain ⟨U, hsteps, hrun, hend, hW, hsame, ce, hce, hO⟩ := X₁.ctorThrow0 hexec htr (own := own) (cls := cls) (names := names) (ic := ic) hown' hcls hnames h (fun x hx => nomatch hx) hfX hkX hcellA (by rw [hhp, hT]; exact Nat.le_refl _)
    (g := { method := m, pc := pc + 4, locals := ls, stack := .ref T.heap.size :: .ref T.heap.size :: rest, locked := none }) rfl hsize rfl rfl (rest := rest) rfl
    (by rw [hb]; exact d4) (by rw [hb]; exact d7) hout hRframes (by simp only [List.map_cons, List.sum_cons, hcat]; omega) hlocks
  obtain ⟨f1, f2⟩ := vx_frame hsame
  rw [hhp] at f1 f2
  have hWs : s.WarmedH U.vm := State.WarmedH.trans hW0 hW
  have hcl : s.vm.findClass cls = some ce.cls := by
    have h9 := hO.cls
    rw [hvm] at h9
    exact h9
  have hall : s.sameButNew ({ U with vm := s.vm } : State) locs mc ms := by
    subst hA
    obtain ⟨e1, e2⟩ := hsame
    rw [State.setFrames_setFrames] at e1
    have h2 : (T.setVm s.vm).sameButNew ({ U with vm := s.vm } : State) [] (0 + 1) (0 + 6) := ⟨e1, e2⟩
    have h3 := X.same.trans h2
    rw [List.append_nil] at h3
    exact h3.mono hc hs
  refine ⟨U, ?_, .threw T.heap.size, hrun, hend, Or.inr ⟨T.heap.size, rfl, cls, ce, locs, hx U hWs.alike f1 (fun q hq => f2 q hq (fun z hz => nomatch hz)), hce, hO.vm, hcl, hWs, hall, hf⟩⟩
  refine st1 _ ?_
  show Steps p.tables e below (T1.setTop { method := m, pc := pc + 3, locals := ls, stack := .ref T.heap.size :: rest, locked := none }) _
  jvm_step X₁.here [X₁.here.top, hexec, d3', Value.category]
  exact hsteps
/-- 'throw new E("text")': new; dup; ldc; invokespecial; athrow -/
theorem vx_throwS {cc : ByteArray} {pc : Nat} (hexec : p.tables.exec = Jvm.exec) (hb : c.code = cc) (hl : l.stackTraces = false) {own cls text : String} {names : List String} {ik is ic mc ms sa : Nat} {A : Nat → Prop}
    (hown : s.vm.findClass own = some m.cls) (hcls : Bundle.fit cls = true) (hnames : ∀ n ∈ names, Bundle.fit n = true)
    (hk : (Cond.classLink own ik cls).before args s = true) (hini : (Cond.initialized cls).before args s = true) (hstr : vk_R own is text sa s) (hat : ∀ w ∈ vx_atS own ic cls names, w.before args s = true)
    (hgood : ∀ w ∈ Cond.classLink own ik cls :: Cond.initialized cls :: vx_atS own ic cls names, vx_ot w = true)
    (hU : vx_Zq Bundle.tN "UNASSIGNED_STACK" Bundle.steD A s s.heap) (hN : vx_Zq Bundle.tN "SUPPRESSED_SENTINEL" Bundle.listD A s s.heap) (hS : va_S A s.heap H locs) (hsize : ls.size = c.maxLocals)
    (d0 : decode cc pc = .ok (.new ik, 3)) (d3 : decode cc (pc + 3) = .ok (.dup, 1)) (d4 : decode cc (pc + 4) = .ok (.ldc is, 2)) (d6 : decode cc (pc + 6) = .ok (.invokespecial ic, 3)) (d9 : decode cc (pc + 9) = .ok (.athrow, 1))
    (hout : ∀ x ∈ c.exceptionTable.toList, covers x (pc + 9) = false)
    (hRframes : names.length + 3 < R.frames) (hRlocals : (rest.map fun v => v.category).sum + (13 * (names.length + 1) + 43) ≤ R.locals) (hRcells : cells + 1 ≤ R.cells) (hRslots : slots + 6 ≤ R.slots) (hlocks : meth.locks = false)
    (hx : ∀ t : State, s.vm.Alike t.vm → H.size ≤ t.heap.size → (∀ q : Nat, q < H.size → t.heap[q]? = H[q]?) → XC cls s t)
    (hf : ∀ z ∈ locs, free z.base) (hc : cells + 1 ≤ mc) (hs : slots + 6 ≤ ms) :
    W p l e R s m args below meth c H locs cells slots (vx_MQ below Qc XC args s mc ms free) (F0 m pc ls rest) := by
  intro T hT X
  have htr : e.platform.stackTraces = false := (show e.platform.stackTraces = l.stackTraces by rw [X.admits.platform]).trans hl
  have Y := vx_rebase X (R' := { frames := R.frames, locals := R.locals, cells := 1, slots := 6 }) (Nat.le_refl _) (Nat.le_refl _) hRcells hRslots
  obtain ⟨s', hA⟩ : ∃ z, z = (T.setVm s.vm).setFrames (.invoking m args :: below) := ⟨_, rfl⟩
  rw [← hA] at Y
  have hvm : s'.vm = s.vm := by rw [hA]; rfl
  have hhp : s'.heap = H := by rw [hA]; exact hT
  have hW0 : s.WarmedH s'.vm := by rw [hvm]; exact State.WarmedH.refl s
  have hat' : ∀ w ∈ vx_atS own ic cls names, w.before args s' = true := fun w hw => vx_ot_at hW0 hvm.symm (hgood w (List.mem_cons_of_mem _ (List.mem_cons_of_mem _ hw))) (hat w hw)
  have hk' : (Cond.classLink own ik cls).before args s' = true := vx_ot_at hW0 hvm.symm (hgood _ List.mem_cons_self) hk
  have hini' : (Cond.initialized cls).before args s' = true := vx_ot_at hW0 hvm.symm (hgood _ (List.mem_cons_of_mem _ List.mem_cons_self)) hini
  have hU' : vx_Zq Bundle.tN "UNASSIGNED_STACK" Bundle.steD A s' s'.heap := by rw [hhp]; exact vx_Zq.moved hW0.alike (hU.kept hS.2.1)
  have hN' : vx_Zq Bundle.tN "SUPPRESSED_SENTINEL" Bundle.listD A s' s'.heap := by rw [hhp]; exact vx_Zq.moved hW0.alike (hN.kept hS.2.1)
  have h : ∀ w ∈ Bundle.ownAtoms own ic cls names, w.before args s' = true := vx_own hat' (vx_isRefq hU'.1) (vx_isRefq hN'.1) hU'.2.word hN'.2.word
  have hown' : s'.vm.findClass own = some m.cls := by rw [hvm]; exact hown
  have hins : (Cond.instantiable cls 6).before args s' = true := h _ (by simp [Bundle.ownAtoms])
  obtain ⟨vm₁, cX, kX, hfX, hkX, -, -, X₁, st1⟩ := Y.newCold hexec (own := own) (C := cls) (index := ik) (n := 6) hown' hk' hins hini'
    (g := F0 m pc ls rest) rfl (by rw [hb]; exact d0) (Nat.le_refl _) (Nat.le_refl _)
  generalize hT1 : (T.setVm vm₁).pushCell { cls := cX, slots := kX.instanceTypes.map defaultValue, vm := .none } = T1 at X₁ st1
  have hcat : (Value.ref T.heap.size).category = 1 := rfl
  have hcellA : T1.heap[T.heap.size]? = some (freshCell cX kX) := by rw [← hT1]; exact State.heap_pushCell_size _ _
  have d3' : decode c.code (pc + 3) = .ok (.dup, 1) := by rw [hb]; exact d3
  have d4' : decode c.code (pc + 4) = .ok (.ldc is, 2) := by rw [hb]; exact d4
  have hstr' : vk_R own is text sa s' := vk_R.warm hW0 hstr
  obtain ⟨U, hsteps, hrun, hend, hW, hsame, ce, hce, hO⟩ := X₁.ctorThrowS hexec htr (own := own) (cls := cls) (names := names) (ic := ic) hown' hcls hnames h (fun x hx => nomatch hx) hfX hkX hcellA (by rw [hhp, hT]; exact Nat.le_refl _) (msg := .ref sa) rfl
    (g := { method := m, pc := pc + 6, locals := ls, stack := .ref sa :: .ref T.heap.size :: .ref T.heap.size :: rest, locked := none }) rfl hsize rfl rfl (rest := rest) rfl
    (by rw [hb]; exact d6) (by rw [hb]; exact d9) hout hRframes (by simp only [List.map_cons, List.sum_cons, hcat]; omega) hlocks
  obtain ⟨f1, f2⟩ := vx_frame hsame
  rw [hhp] at f1 f2
  have hWs : s.WarmedH U.vm := State.WarmedH.trans hW0 hW
  have hcl : s.vm.findClass cls = some ce.cls := by
    have h9 := hO.cls
    rw [hvm] at h9
    exact h9
  have hall : s.sameButNew ({ U with vm := s.vm } : State) locs mc ms := by
    subst hA
    obtain ⟨e1, e2⟩ := hsame
    rw [State.setFrames_setFrames] at e1
    have h2 : (T.setVm s.vm).sameButNew ({ U with vm := s.vm } : State) [] (0 + 1) (0 + 6) := ⟨e1, e2⟩
    have h3 := X.same.trans h2
    rw [List.append_nil] at h3
    exact h3.mono hc hs
  refine ⟨U, ?_, .threw T.heap.size, hrun, hend, Or.inr ⟨T.heap.size, rfl, cls, ce, locs, hx U hWs.alike f1 (fun q hq => f2 q hq (fun z hz => nomatch hz)), hce, hO.vm, hcl, hWs, hall, hf⟩⟩
  refine st1 _ ?_
  show Steps p.tables e below (T1.setTop { method := m, pc := pc + 3, locals := ls, stack := .ref T.heap.size :: rest, locked := none }) _
  jvm_step X₁.here [X₁.here.top, hexec, d3', Value.category]
  exact X₁.ldcString hexec (own := own) (text := text) (index := is) (a := sa) hown' hstr'.1 hstr'.2
    (g := { method := m, pc := pc + 4, locals := ls, stack := .ref T.heap.size :: .ref T.heap.size :: rest, locked := none }) rfl d4' _ hsteps
/-- 'throw new E("text")', the text by a wide index -/
theorem vx_throwSW {cc : ByteArray} {pc : Nat} (hexec : p.tables.exec = Jvm.exec) (hb : c.code = cc) (hl : l.stackTraces = false) {own cls text : String} {names : List String} {ik is ic mc ms sa : Nat} {A : Nat → Prop}
    (hown : s.vm.findClass own = some m.cls) (hcls : Bundle.fit cls = true) (hnames : ∀ n ∈ names, Bundle.fit n = true)
    (hk : (Cond.classLink own ik cls).before args s = true) (hini : (Cond.initialized cls).before args s = true) (hstr : vk_R own is text sa s) (hat : ∀ w ∈ vx_atS own ic cls names, w.before args s = true)
    (hgood : ∀ w ∈ Cond.classLink own ik cls :: Cond.initialized cls :: vx_atS own ic cls names, vx_ot w = true)
    (hU : vx_Zq Bundle.tN "UNASSIGNED_STACK" Bundle.steD A s s.heap) (hN : vx_Zq Bundle.tN "SUPPRESSED_SENTINEL" Bundle.listD A s s.heap) (hS : va_S A s.heap H locs) (hsize : ls.size = c.maxLocals)
    (d0 : decode cc pc = .ok (.new ik, 3)) (d3 : decode cc (pc + 3) = .ok (.dup, 1)) (d4 : decode cc (pc + 4) = .ok (.ldc_w is, 3)) (d7 : decode cc (pc + 7) = .ok (.invokespecial ic, 3)) (d10 : decode cc (pc + 10) = .ok (.athrow, 1))
    (hout : ∀ x ∈ c.exceptionTable.toList, covers x (pc + 10) = false)
    (hRframes : names.length + 3 < R.frames) (hRlocals : (rest.map fun v => v.category).sum + (13 * (names.length + 1) + 43) ≤ R.locals) (hRcells : cells + 1 ≤ R.cells) (hRslots : slots + 6 ≤ R.slots) (hlocks : meth.locks = false)
    (hx : ∀ t : State, s.vm.Alike t.vm → H.size ≤ t.heap.size → (∀ q : Nat, q < H.size → t.heap[q]? = H[q]?) → XC cls s t)
    (hf : ∀ z ∈ locs, free z.base) (hc : cells + 1 ≤ mc) (hs : slots + 6 ≤ ms) :
    W p l e R s m args below meth c H locs cells slots (vx_MQ below Qc XC args s mc ms free) (F0 m pc ls rest) := by
  intro T hT X
  have htr : e.platform.stackTraces = false := (show e.platform.stackTraces = l.stackTraces by rw [X.admits.platform]).trans hl
  have Y := vx_rebase X (R' := { frames := R.frames, locals := R.locals, cells := 1, slots := 6 }) (Nat.le_refl _) (Nat.le_refl _) hRcells hRslots
  obtain ⟨s', hA⟩ : ∃ z, z = (T.setVm s.vm).setFrames (.invoking m args :: below) := ⟨_, rfl⟩
  rw [← hA] at Y
  have hvm : s'.vm = s.vm := by rw [hA]; rfl
  have hhp : s'.heap = H := by rw [hA]; exact hT
  have hW0 : s.WarmedH s'.vm := by rw [hvm]; exact State.WarmedH.refl s
  have hat' : ∀ w ∈ vx_atS own ic cls names, w.before args s' = true := fun w hw => vx_ot_at hW0 hvm.symm (hgood w (List.mem_cons_of_mem _ (List.mem_cons_of_mem _ hw))) (hat w hw)
  have hk' : (Cond.classLink own ik cls).before args s' = true := vx_ot_at hW0 hvm.symm (hgood _ List.mem_cons_self) hk
  have hini' : (Cond.initialized cls).before args s' = true := vx_ot_at hW0 hvm.symm (hgood _ (List.mem_cons_of_mem _ List.mem_cons_self)) hini
  have hU' : vx_Zq Bundle.tN "UNASSIGNED_STACK" Bundle.steD A s' s'.heap := by rw [hhp]; exact vx_Zq.moved hW0.alike (hU.kept hS.2.1)
  have hN' : vx_Zq Bundle.tN "SUPPRESSED_SENTINEL" Bundle.listD A s' s'.heap := by rw [hhp]; exact vx_Zq.moved hW0.alike (hN.kept hS.2.1)
  have h : ∀ w ∈ Bundle.ownAtoms own ic cls names, w.before args s' = true := vx_own hat' (vx_isRefq hU'.1) (vx_isRefq hN'.1) hU'.2.word hN'.2.word
  have hown' : s'.vm.findClass own = some m.cls := by rw [hvm]; exact hown
  have hins : (Cond.instantiable cls 6).before args s' = true := h _ (by simp [Bundle.ownAtoms])
  obtain ⟨vm₁, cX, kX, hfX, hkX, -, -, X₁, st1⟩ := Y.newCold hexec (own := own) (C := cls) (index := ik) (n := 6) hown' hk' hins hini'
    (g := F0 m pc ls rest) rfl (by rw [hb]; exact d0) (Nat.le_refl _) (Nat.le_refl _)
  generalize hT1 : (T.setVm vm₁).pushCell { cls := cX, slots := kX.instanceTypes.map defaultValue, vm := .none } = T1 at X₁ st1
  have hcat : (Value.ref T.heap.size).category = 1 := rfl
  have hcellA : T1.heap[T.heap.size]? = some (freshCell cX kX) := by rw [← hT1]; exact State.heap_pushCell_size _ _
  have d3' : decode c.code (pc + 3) = .ok (.dup, 1) := by rw [hb]; exact d3
  have d4' : decode c.code (pc + 4) = .ok (.ldc_w is, 3) := by rw [hb]; exact d4
  have hstr' : vk_R own is text sa s' := vk_R.warm hW0 hstr
  obtain ⟨U, hsteps, hrun, hend, hW, hsame, ce, hce, hO⟩ := X₁.ctorThrowS hexec htr (own := own) (cls := cls) (names := names) (ic := ic) hown' hcls hnames h (fun x hx => nomatch hx) hfX hkX hcellA (by rw [hhp, hT]; exact Nat.le_refl _) (msg := .ref sa) rfl
    (g := { method := m, pc := pc + 7, locals := ls, stack := .ref sa :: .ref T.heap.size :: .ref T.heap.size :: rest, locked := none }) rfl hsize rfl rfl (rest := rest) rfl
    (by rw [hb]; exact d7) (by rw [hb]; exact d10) hout hRframes (by simp only [List.map_cons, List.sum_cons, hcat]; omega) hlocks
  obtain ⟨f1, f2⟩ := vx_frame hsame
  rw [hhp] at f1 f2
  have hWs : s.WarmedH U.vm := State.WarmedH.trans hW0 hW
  have hcl : s.vm.findClass cls = some ce.cls := by
    have h9 := hO.cls
    rw [hvm] at h9
    exact h9
  have hall : s.sameButNew ({ U with vm := s.vm } : State) locs mc ms := by
    subst hA
    obtain ⟨e1, e2⟩ := hsame
    rw [State.setFrames_setFrames] at e1
    have h2 : (T.setVm s.vm).sameButNew ({ U with vm := s.vm } : State) [] (0 + 1) (0 + 6) := ⟨e1, e2⟩
    have h3 := X.same.trans h2
    rw [List.append_nil] at h3
    exact h3.mono hc hs
  refine ⟨U, ?_, .threw T.heap.size, hrun, hend, Or.inr ⟨T.heap.size, rfl, cls, ce, locs, hx U hWs.alike f1 (fun q hq => f2 q hq (fun z hz => nomatch hz)), hce, hO.vm, hcl, hWs, hall, hf⟩⟩
  refine st1 _ ?_
  show Steps p.tables e below (T1.setTop { method := m, pc := pc + 3, locals := ls, stack := .ref T.heap.size :: rest, locked := none }) _
  jvm_step X₁.here [X₁.here.top, hexec, d3', Value.category]
  exact X₁.ldcStringW hexec (own := own) (text := text) (index := is) (a := sa) hown' hstr'.1 hstr'.2
    (g := { method := m, pc := pc + 4, locals := ls, stack := .ref T.heap.size :: .ref T.heap.size :: rest, locked := none }) rfl d4' _ hsteps
end Ends
section Bodies
variable {l : Launch}
theorem vx_ofW {y : MethodName} {ws ws' : List Cond} {rm : Room} {Pc : Array Value → State → Prop} {Qc : Array Value → State → Outcome → State → Prop} {XC : String → State → State → Prop} {mc ms : Nat} {free : Addr → Prop} {cc : ByteArray} {maxL : Nat} {ret : Option FieldType}
    (hy : plainName y.cls = true) (hw : ws = Cond.code y cc maxL ret :: ws')
    (body : ∀ p e s m args below meth c s₁, BodyLoose p l y (headSpec ws rm) cc maxL ret e s m args below meth c s₁ → c.maxLocals = maxL → (∀ x ∈ c.exceptionTable.toList, False) → Pc args s →
      W p l e (headSpec ws rm).room s m args below meth c s.heap [] 0 0 (vx_MQ below Qc XC args s mc ms free) (entryFrame m args maxL)) : vx_Met l y ws rm Pc Qc XC mc ms free := by
  refine MetFree.of_bodyS (code := cc) (maxLocals := maxL) (ret := ret) hy ?_ ?_
  · intro args s m h hn
    obtain ⟨meth, c, h1, h2, h3, h4, h5, h6, -, -⟩ := Cond.code_spec hn (atoms_spec (ws := ws) h _ (by rw [hw]; exact List.mem_cons_self))
    exact ⟨meth, c, h1, h2, h3, h4, h5, h6⟩
  · intro p e s m args below meth c s₁ B hml hP _
    have hh0 : s₁.heap = s.heap := by rw [B.state]; rfl
    have ht : ∀ x ∈ c.exceptionTable.toList, False := by
      obtain ⟨meth9, c9, h1, h2, -, -, -, -, h7, -⟩ := Cond.code_spec B.named (atoms_spec (ws := ws) B.pre _ (by rw [hw]; exact List.mem_cons_self))
      cases Option.some.inj (h1.symm.trans B.method)
      cases Option.some.inj (h2.symm.trans (Stand.of_body B).code)
      intro x hx
      rw [Array.isEmpty_iff.mp h7] at hx
      cases hx
    obtain ⟨t, a1, o, b1, b2, b3⟩ := body p e s m args below meth c s₁ B hml ht hP s₁ hh0 (Stand.of_body B)
    exact ⟨t, o, a1, b1, b2, b3⟩
/-- the table of a body with handlers -/
theorem vx_table {p : Program} {x y : MethodName} {S : Spec} {cc bytes : ByteArray} {maxL maxL' : Nat} {ret ret' : Option FieldType} {e : Env} {s s₁ : State} {m : MethodId} {args : Array Value} {below : List Frame} {meth : Method} {c : Code} {hh : List (Nat × Nat × Nat × Nat)}
    (B : BodyLoose p l y S cc maxL ret e s m args below meth c s₁) (h : (Cond.codeWith y bytes maxL' ret' hh).before args s = true) : c.exceptionTable.toList = tableOf hh := by
  obtain ⟨m9, meth9, c9, hn9, h1, h2, -, -, h6, -⟩ := Cond.codeWith_spec h
  cases Option.some.inj (hn9.symm.trans B.named)
  cases Option.some.inj (h1.symm.trans B.method)
  cases Option.some.inj (h2.symm.trans (Stand.of_body B).code)
  rw [← h6, table_eq]
end Bodies
end VXA
/-! ===== END ===== -/
/-! ===== BEGIN a static call of a method with an exception table ===== -/
section VXS
variable {p : Program} {l : Launch} {e : Env} {R : Room} {s : State} {m : MethodId} {args : Array Value} {below : List Frame} {meth : Method} {c : Code} {T : State} {H : Heap} {locs : List Loc} {cells slots : Nat}
abbrev vx_CSW (R : Room) (s : State) (args : Array Value) (own : String) (index : Nat) (y : MethodName) (bytes : ByteArray) (maxL : Nat) (ret : Option FieldType) (hh : List (Nat × Nat × Nat × Nat)) (ws : List Cond) (rm : Room) (mc ms n : Nat) : Prop :=
  (rm.cells = mc ∧ rm.slots = ms ∧ rm.frames + 1 ≤ R.frames ∧ 8 + (maxL + 11) + rm.locals ≤ R.locals ∧ (∀ w ∈ ws, ∀ (a' : Array Value) (U : State), s.WarmedH U.vm → w.before a' U = true) ∧ Cond.codeWith y bytes maxL ret hh ∈ ws) ∧
  (Cond.codeWith y bytes maxL ret hh).before args s = true ∧ (Cond.initialized y.cls).before args s = true ∧ (y.cls ≠ "java/lang/invoke/MethodHandle" ∧ y.cls ≠ "java/lang/invoke/VarHandle") ∧
  (∀ sig, parseMethodDescriptor y.desc = some sig → n = sig.parameters.length) ∧ (Cond.methodLink own index y).before args s = true ∧ (Cond.static y).before args s = true
theorem vx_cwSW {own : String} {index maxL mc ms : Nat} {y : MethodName} {bytes : ByteArray} {ret : Option FieldType} {hh : List (Nat × Nat × Nat × Nat)} {Ts ws ws' : List Cond} {rm : Room} (n : Nat) (ht : ∀ w ∈ Ts, w.before args s = true) (hT : GoodIn Ts (va_wsS own index y ws)) (hw : ws = Cond.codeWith y bytes maxL ret hh :: ws') (hrc : rm.cells = mc) (hrs : rm.slots = ms)
    (hd : y.cls ≠ "java/lang/invoke/MethodHandle" ∧ y.cls ≠ "java/lang/invoke/VarHandle" ∧ (parseMethodDescriptor y.desc).map (fun d => d.parameters.length) = some n) (hR : rm.frames + 1 ≤ R.frames ∧ 8 + (maxL + 11) + rm.locals ≤ R.locals) :
    vx_CSW R s args own index y bytes maxL ret hh ws rm mc ms n := by
  have ok : ∀ w ∈ va_wsS own index y ws, w.before args s = true := fun w h => ht w (hT w h).1
  have hG : GoodIn Ts ws := fun w h => hT w (by unfold va_wsS; exact List.mem_append_right _ h)
  have hc : Cond.codeWith y bytes maxL ret hh ∈ ws := by rw [hw]; exact List.mem_cons_self
  refine ⟨⟨hrc, hrs, hR.1, hR.2, pay_in ht hG, hc⟩, ht _ (hG _ hc).1, ok _ (by simp [va_wsS]), ⟨hd.1, hd.2.1⟩, fun sig h => ?_, ok _ (by simp [va_wsS]), ok _ (by simp [va_wsS])⟩
  have h2 := hd.2.2
  rw [h] at h2
  exact (Option.some.inj h2).symm
theorem vx_callSW (X : Stand p l e R s m args below meth c T locs cells slots) (hexec : p.tables.exec = Jvm.exec) {own : String} {index : Nat} {y : MethodName} {bytes : ByteArray} {maxL : Nat} {ret : Option FieldType} {hh : List (Nat × Nat × Nat × Nat)}
    (hown : s.vm.findClass own = some m.cls) (hlink : (Cond.methodLink own index y).before args s = true) (hstat : (Cond.static y).before args s = true) (hinit : (Cond.initialized y.cls).before args s = true)
    (hcode : (Cond.codeWith y bytes maxL ret hh).before args s = true) (hy : y.cls ≠ "java/lang/invoke/MethodHandle" ∧ y.cls ≠ "java/lang/invoke/VarHandle")
    {W9 : Nat} {Pre : Pt → Array Value → Prop} {Post : Pt → Array Value → Option Value → Pt → Prop} (hK : Back l R p e below s args y 3 W9 Pre Post)
    {g : JFrame} (hg : g.method = m) (hsize : g.locals.size = c.maxLocals) {argsL rest : List Value} (hlen : ∀ sig, parseMethodDescriptor y.desc = some sig → argsL.length = sig.parameters.length)
    (hstack : g.stack = argsL.reverse ++ rest) (hW : 2 * g.monitorRoom + (rest.map fun v => v.category).sum ≤ W9) (hdg : decode c.code g.pc = .ok (.invokestatic index, 3))
    (hpre : ∀ vm₁, s.WarmedH vm₁ → Pre ⟨T.setVm vm₁, locs, cells, slots⟩ argsL.toArray) :
    ∃ (v : Option Value) (vm₁ : Vm) (B : Pt), s.WarmedH vm₁ ∧ Stand p l e R s m args below meth c B.U B.locs B.cells B.slots ∧ Post ⟨T.setVm vm₁, locs, cells, slots⟩ argsL.toArray v B ∧
      ∀ target, Steps p.tables e below (B.U.setTop { g with pc := g.pc + 3, stack := v.toList ++ rest }) target → Steps p.tables e below (T.setTop g) target := by
  obtain ⟨mk, methM, cM, hnamed, hmethM, -, -, -, -, -, -, hsigM⟩ := Cond.codeWith_spec hcode
  have hstatic : methM.isStatic = true := Cond.static_spec hnamed hmethM hstat
  obtain ⟨kP, hkP, -⟩ := className_of_methodNamed hnamed
  have hinitP : kP.init = .initialized := Cond.initialized_spec (findClass_of_methodNamed hnamed) hkP hinit
  obtain ⟨vm₁, X₁, hstep₁⟩ := X.invokestatic hexec hown hlink hnamed hmethM hstatic hkP hinitP hy (g := g) hg (argsL := argsL) (rest := rest) (hlen _ hsigM) hstack hdg
  obtain ⟨v, B, X', hpost, hsteps⟩ := hK m meth c ⟨T.setVm vm₁, locs, cells, slots⟩ { g with stack := rest } (.invokestatic index) mk argsL.toArray X₁ hg hsize hdg hW (X₁.named hnamed) (hpre vm₁ X₁.warmed)
  exact ⟨v, vm₁, B, X₁.warmed, X', hpost, fun target h => hstep₁ _ fun acts => by rw [doInvoke_state]; exact hsteps.trans h⟩
theorem vx_runSW {y : MethodName} {bytes cc : ByteArray} {maxL nL mc ms n index : Nat} {ret : Option FieldType} {hh : List (Nat × Nat × Nat × Nat)} {ws : List Cond} {rm : Room} {Pc : Array Value → State → Prop} {Qc : Array Value → State → Outcome → State → Prop} {free : Addr → Prop} {Ts : List Cond} {own : String} {As rest : List Value} {g : JFrame}
    (S : CallFix p m c cc nL s args Ts own) (hM : Met l y ws rm Pc Qc mc ms free) (cw : vx_CSW R s args own index y bytes maxL ret hh ws rm mc ms n) (hp : PreS s H Pc As)
    (hg : g.method = m) (hn : As.length = n) (hsize : g.locals.size = nL) (hstack : g.stack = As.reverse ++ rest) (hW : 2 * g.monitorRoom + (rest.map fun v => v.category).sum ≤ 8) (hdg : decode cc g.pc = .ok (.invokestatic index, 3)) (hf : cells + mc ≤ R.cells ∧ slots + ms ≤ R.slots) :
    va_Run p l e R s m args below meth c H locs cells slots mc ms g rest (Qc As.toArray) (free) := by
  obtain ⟨⟨hrc, hrs, hfr, hlo, hws, hcw⟩, hcode, hini, hy, hlen, hl, hstt⟩ := cw
  have hK : Back l R p e below s args y 3 8 (PreOf R mc ms Pc) (PostOf Qc mc ms free) := va_backW (hh := hh) (bytes := bytes) (maxL := maxL) (ret := ret) hM hp.1 hrc hrs hfr hlo hws hcw (fun a' U hW => word_at hW (Or.inl (by first | rfl | simp [Cond.onTables, Cond.keeps, Cond.steady])) hini)
  obtain ⟨hx, hb, hml, ho, -⟩ := S
  intro T hT X
  obtain ⟨v, vm₁, ⟨U', l2, c2, s2⟩, hW₁, X', ⟨g', mk, t, L, e1, e2, hq, h1, hL, h2, h3⟩, st⟩ := vx_callSW X hx (hh := hh) (bytes := bytes) (maxL := maxL) (ret := ret) ho hl hstt hini hcode hy hK hg (hsize.trans hml.symm) (argsL := As) (rest := rest) (fun sig h => hn.trans (hlen sig h)) hstack hW (by rw [hb]; exact hdg)
    (fun vm₁ hW₁ => ⟨hf.1, hf.2, hp.2 (T.setVm vm₁) hT hW₁⟩)
  dsimp only [Pt.U, Pt.locs, Pt.cells, Pt.slots] at X' e1 e2 h1 h2 h3 st
  subst h1; subst h2; subst h3
  exact ⟨v, (T.setVm vm₁).calling g' mk As.toArray, t, U', L, hT, X', hL, e1, e2, hq, st⟩
/-- not caught here, past rows that name other classes: it goes on to the caller -/
theorem vx_outP {p : Program} {l : Launch} {e : Env} {R : Room} {s : State} {m : MethodId} {args : Array Value} {below : List Frame} {meth : Method} {c : Code} {H : Heap} {locs : List Loc} {cells slots : Nat} {free : Addr → Prop} {ls : Array Slot} {rest : List Value} {Qc : Array Value → State → Outcome → State → Prop} {XC : String → State → State → Prop}
    {pc : Nat} {own E : String} {ce : Cell} {q : Addr} {mc ms : Nat} (hown : s.vm.findClass own = some m.cls) (hlocks : meth.locks = false)
    (hpass : ∀ z ∈ c.exceptionTable.toList, covers z pc = false ∨ (z.catchType ≠ 0 ∧ ∃ nm : String, (Cond.classLink own z.catchType nm).before args s = true ∧ va_Nc E nm s)) (hcell : H[q]? = some ce) (hv : ce.vm = .none) (hcl : s.vm.findClass E = some ce.cls)
    (hx : ∀ t : State, t.heap = H → s.vm.Alike t.vm → XC E s t) (hf : ∀ z ∈ locs, free z.base) (hc : cells ≤ mc) (hs : slots ≤ ms) :
    vx_W p l e R s m args below meth c H locs cells slots (vx_MQ below Qc XC args s mc ms free) (F0 m pc ls rest) q := by
  intro T hT X
  have hpl : e.platform.magicAccessors = ({} : Platform).magicAccessors := by rw [X.admits.platform]
  obtain ⟨vm', hW', X', st⟩ := X.outThrough hlocks q (g := F0 m pc ls rest) rfl rfl rfl (cell := ce) (by rw [hT]; exact hcell) (by rw [hv]; rfl)
    (by obtain ⟨k9, h9, -⟩ := Vm.findClass_spec hcl; exact ⟨k9, h9⟩) (fun z hz => by
      rcases hpass z hz with h | ⟨hz0, nm, hl1, hn1⟩
      · exact Or.inl h
      · obtain ⟨c6, hc6, hcl6⟩ := Cond.classLink_spec hown hl1 e.platform hpl
        obtain ⟨a8, b8, h1, h2, h3⟩ := hn1
        cases Option.some.inj (h1.symm.trans hcl)
        cases Option.some.inj (h2.symm.trans hc6)
        exact Or.inr ⟨hz0, _, hcl6, h3⟩)
  obtain ⟨g₀, hfr⟩ := X'.frames_eq
  have hcell9 : ((T.setVm vm').setFrames (.throwing q :: below)).heap[q]? = some ce := by
    show T.heap[q]? = some ce
    rw [hT]; exact hcell
  have hend : Ended ((T.setVm vm').setFrames (.throwing q :: below)) below (.threw q) := State.frames_setFrames _ (State.cur_lt_of_frames hfr)
  refine ⟨(T.setVm vm').setFrames (.throwing q :: below), ?_, .threw q, X'.here.running, hend, Or.inr ⟨q, rfl, E, ce, locs, hx _ hT (X'.ends _).1.alike, hcell9, hv, hcl, (X'.ends _).1, (X'.ends _).2.mono hc hs, hf⟩⟩
  rw [X.pushThrowing_eq]
  exact st
/-- a thing of a world lies in the heap -/
theorem vx_lt {D : va_G} {cl : List vw_C} {ws : va_W} {H1 : Heap} (h : va_P D cl ws H1) {k : Nat} {q : Nat × va_E} (hk : ws[k]? = some q) : q.1 < H1.size := (h k q hk).lt
end VXS
/-! ===== END ===== -/
/-! ===== BEGIN methods with a table of their own: called by a name, returning or throwing ===== -/
section VXH
/-! vx_backW, vx_callVX, vx_callSX, vx_callVW, vx_runVW, vx_runVX, vx_runSX, vx_ofWH follow the same proofs as their sisters above (Free/Laws.lean, Shelf42/LK1.lean); vx_outP calls Shelf42/NT130.lean (outThrough). -/
section
variable {l : Launch} {R : Room} {p : Program} {e : Env} {below : List Frame} {s : State} {sargs : Array Value} {y : MethodName} {len W9 : Nat}
theorem vx_backW {ws : List Cond} {rm : Room} {Pc : Array Value → State → Prop} {Qc : Array Value → State → Outcome → State → Prop} {XC : String → State → State → Prop} {mc ms : Nat} {free : Addr → Prop} {bytes : ByteArray} {maxL : Nat} {ret : Option FieldType} {hh : List (Nat × Nat × Nat × Nat)}
    (hM : vx_Met l y ws rm Pc Qc XC mc ms free) (hblind : FrameBlind Pc) (hrc : rm.cells = mc) (hrs : rm.slots = ms)
    (hframes : rm.frames + 1 ≤ R.frames) (hlocals : W9 + (maxL + 11) + rm.locals ≤ R.locals)
    (hws : ∀ w ∈ ws, ∀ a' U, s.WarmedH U.vm → w.before a' U = true) (hcode : Cond.codeWith y bytes maxL ret hh ∈ ws) (hinit : ∀ a' U, s.WarmedH U.vm → (Cond.initialized y.cls).before a' U = true) :
    vx_Back l R p e below s sargs y len W9 (PreOf R mc ms Pc) (PostOf Qc mc ms free) (vx_Post XC mc ms free) := by
  intro m meth c A g ig mk a X hg hsize hdg hW hn hp
  have h1 : (headSpec ws rm).pre.before a A.U = true := atoms_intro fun w hw => hws w hw _ _ X.warmed
  have h2 : (Cond.codeWith y bytes maxL ret hh).before a A.U = true := hws _ hcode _ _ X.warmed
  have h3 : (Cond.initialized y.cls).before a A.U = true := hinit _ _ X.warmed
  have h4 : A.cells + (headSpec ws rm).room.cells ≤ R.cells := by rw [show (headSpec ws rm).room.cells = mc from hrc]; exact hp.1
  have h5 : A.slots + (headSpec ws rm).room.slots ≤ R.slots := by rw [show (headSpec ws rm).room.slots = ms from hrs]; exact hp.2.1
  have hPc : Pc a (A.U.calling g mk a) := hblind _ _ _ _ hp.2.2
  obtain ⟨U, Ls, c0, s0⟩ := A
  dsimp only [Pt.U, Pt.locs, Pt.cells, Pt.slots] at h1 h2 h3 h4 h5 X hn hPc ⊢
  obtain ⟨m9, methY, cY, hn9, hmY, hcY, -, hlY, -⟩ := Cond.codeWith_spec h2
  cases Option.some.inj (hn9.symm.trans hn)
  obtain ⟨kY, hkY, -⟩ := className_of_methodNamed hn
  have hinitY : kY.init = .initialized := Cond.initialized_spec (findClass_of_methodNamed hn) hkY h3
  have h : At U g.method c below := by rw [hg]; exact X.here
  have hlocals9 : W9 + (maxL + 11) + (headSpec ws rm).room.locals ≤ R.locals := hlocals
  have happ : (headSpec ws rm).appliesLoose y e.platform (U.calling g mk a) = true :=
    Spec.appliesLoose_calling (g := g) h hdg hn hkY hinitY
      (X.room_calling (g := g) (R' := (headSpec ws rm).room) hsize hmY hcY hframes (by rw [hlY]; omega) h4 h5) h1
  obtain ⟨mid, hmid⟩ := h.above
  have hfr : (U.setTop g).frames = (.java g :: mid) ++ below := by rw [State.frames_setTop' g h.top, hmid]; rfl
  obtain ⟨o, s₂, hsteps, -, hend, hq⟩ := Steps.callFree hM p X.admits X.cas X.clock (acts := []) hfr happ hPc trivial
  have hq' : vx_Q Qc XC mc ms free a (U.calling g mk a) o s₂ := hq
  rw [State.frames_setTop' g h.top] at hend
  obtain ⟨g₀, hg0⟩ := Option.isSome_iff_exists.mp h.top
  obtain ⟨r, hr⟩ := State.topJava?_eq_some.mp hg0
  have hr' : (({ U with heap := s₂.heap, slotsUsed := s₂.slotsUsed } : State).setVm s₂.vm).frames = .java g₀ :: r := hr
  rcases hq' with ⟨hqc, L, hfe, hL⟩ | ⟨q, rfl, E, ce, L, hx, hce, hcv, hcl, hW₂, hsm, hL⟩
  · obtain ⟨⟨v, rfl⟩, hW₂, e2, q2, q3, q4, q5, q6⟩ := id hfe
    have e3 : s₂ = ({ (U.calling g mk a).setFrames s₂.frames with heap := s₂.heap, slotsUsed := s₂.slotsUsed } : State).setVm s₂.vm := by
      have : s₂ = ({ s₂ with vm := (U.calling g mk a).vm } : State).setVm s₂.vm := rfl
      rw [e2] at this
      exact this
    obtain ⟨c₂, i₂, len₂, hc₂, hd₂, hf₂⟩ := hend
    have hW' : U.WarmedH s₂.vm := hW₂
    have hcc : c₂ = c := by
      have h1 : s₂.code? g.method = U.code? g.method := by
        rw [State.code?_eq, State.code?_eq, hW'.alike.method?]
      exact Option.some.inj (hc₂.symm.trans (h1.trans h.code))
    subst hcc
    have hlen : len₂ = len := by rw [hdg] at hd₂; cases hd₂; rfl
    subst hlen
    have hs₂ : s₂ = (({ U with heap := s₂.heap, slotsUsed := s₂.slotsUsed } : State).setVm s₂.vm).setTop { g with pc := g.pc + len₂, stack := v.toList ++ g.stack } := by
      refine e3.trans ?_
      rw [hf₂, State.calling_eq h.top, State.setFrames_setFrames, State.setTop_of_frames _ hr', hr]
      rfl
    have hsame : U.sameButNew ({ U with heap := s₂.heap, slotsUsed := s₂.slotsUsed } : State) L mc ms := by
      refine ⟨?_, q2, q3, q4, q5, q6⟩
      obtain ⟨t, ht, -⟩ := State.frames_cons hr
      show ({ U with heap := s₂.heap, slotsUsed := s₂.slotsUsed } : State) = { U.setFrames U.frames with heap := s₂.heap, slotsUsed := s₂.slotsUsed }
      rw [State.setFrames_self ht]
    subst hg
    refine Or.inl ⟨v, ⟨(({ U with heap := s₂.heap, slotsUsed := s₂.slotsUsed } : State).setVm s₂.vm), Ls ++ L, c0 + mc, s0 + ms⟩,
      ⟨X.admits, X.cas, X.clock, X.frames, X.room, X.hears, X.method, X.code, (X.here.setHeapUsed s₂.heap s₂.slotsUsed).setVm hW'.alike, X.tail, State.WarmedH.trans X.warmed hW', X.limits, X.bytes, X.same.trans (hsame.setVm s.vm)⟩,
      ⟨g, mk, s₂, L, rfl, rfl, hqc, rfl, hL, rfl, rfl⟩, ?_⟩
    show Steps p.tables e below _ ((({ U with heap := s₂.heap, slotsUsed := s₂.slotsUsed } : State).setVm s₂.vm).setTop { g with pc := g.pc + len₂, stack := v.toList ++ g.stack })
    rw [← hs₂]
    exact hsteps
  · obtain ⟨e2, q2, q3, q4, q5, q6⟩ := id hsm
    have e3 : s₂ = ({ (U.calling g mk a).setFrames s₂.frames with heap := s₂.heap, slotsUsed := s₂.slotsUsed } : State).setVm s₂.vm := by
      have : s₂ = ({ s₂ with vm := (U.calling g mk a).vm } : State).setVm s₂.vm := rfl
      rw [e2] at this
      exact this
    have hf₂ : s₂.frames = .throwing q :: .java g :: U.frames.tail := hend
    have hW' : U.WarmedH s₂.vm := hW₂
    have hs₂ : s₂ = ((({ U with heap := s₂.heap, slotsUsed := s₂.slotsUsed } : State).setVm s₂.vm).setTop g).pushFrame (.throwing q) := by
      refine e3.trans ?_
      rw [hf₂, State.calling_eq h.top, State.setFrames_setFrames, State.pushFrame, State.frames_setTop _ hr', State.setTop_of_frames _ hr', State.setFrames_setFrames, hr]
      rfl
    have hsame : U.sameButNew ({ U with heap := s₂.heap, slotsUsed := s₂.slotsUsed } : State) L mc ms := by
      refine ⟨?_, q2, q3, q4, q5, q6⟩
      obtain ⟨t, ht, -⟩ := State.frames_cons hr
      show ({ U with heap := s₂.heap, slotsUsed := s₂.slotsUsed } : State) = { U.setFrames U.frames with heap := s₂.heap, slotsUsed := s₂.slotsUsed }
      rw [State.setFrames_self ht]
    subst hg
    refine Or.inr ⟨q, ⟨(({ U with heap := s₂.heap, slotsUsed := s₂.slotsUsed } : State).setVm s₂.vm), Ls ++ L, c0 + mc, s0 + ms⟩,
      ⟨X.admits, X.cas, X.clock, X.frames, X.room, X.hears, X.method, X.code, (X.here.setHeapUsed s₂.heap s₂.slotsUsed).setVm hW'.alike, X.tail, State.WarmedH.trans X.warmed hW', X.limits, X.bytes, X.same.trans (hsame.setVm s.vm)⟩,
      ⟨g, mk, s₂, L, E, ce, rfl, rfl, hx, hce, hcv, hcl, rfl, hL, rfl, rfl⟩, ?_⟩
    show Steps p.tables e below _ (((({ U with heap := s₂.heap, slotsUsed := s₂.slotsUsed } : State).setVm s₂.vm).setTop g).pushFrame (.throwing q))
    rw [← hs₂]
    exact hsteps
end
variable {p : Program} {l : Launch} {e : Env} {R : Room} {s : State} {m : MethodId} {args : Array Value} {below : List Frame} {meth : Method} {c : Code} {T : State} {H : Heap} {locs : List Loc} {cells slots : Nat}
theorem vx_callVX (X : Stand p l e R s m args below meth c T locs cells slots) (hexec : p.tables.exec = Jvm.exec) {own C : String} {index : Nat} {y : MethodName} {bytes : ByteArray} {maxL : Nat} {ret : Option FieldType} {hh : List (Nat × Nat × Nat × Nat)}
    (hown : s.vm.findClass own = some m.cls) (hlink : (Cond.methodLink own index y).before args s = true) (hinst : (Cond.instanceMethod y).before args s = true) (hsel : (Cond.selects C y y).before args s = true)
    (hcode : (Cond.codeWith y bytes maxL ret hh).before args s = true) (hy : y.cls ≠ "java/lang/invoke/MethodHandle" ∧ y.cls ≠ "java/lang/invoke/VarHandle")
    {W9 : Nat} {Pre : Pt → Array Value → Prop} {Post : Pt → Array Value → Option Value → Pt → Prop} {PostX : Pt → Array Value → Addr → Pt → Prop} (hK : vx_Back l R p e below s args y 3 W9 Pre Post PostX)
    {b : Addr} {cellB : Cell} (hcell : T.heap[b]? = some cellB) (hobj : cellB.vm.isStatics = false) (hcls : s.vm.findClass C = some cellB.cls)
    {g : JFrame} (hg : g.method = m) (hsize : g.locals.size = c.maxLocals) {argsL rest : List Value} (hlen : ∀ sig, parseMethodDescriptor y.desc = some sig → argsL.length = sig.parameters.length)
    (hstack : g.stack = argsL.reverse ++ .ref b :: rest) (hW : 2 * g.monitorRoom + (rest.map fun v => v.category).sum ≤ W9) (hdg : decode c.code g.pc = .ok (.invokevirtual index, 3))
    (hpre : ∀ vm₁, s.WarmedH vm₁ → Pre ⟨T.setVm vm₁, locs, cells, slots⟩ (Value.ref b :: argsL).toArray) :
    (∃ (v : Option Value) (vm₁ : Vm) (B : Pt), s.WarmedH vm₁ ∧ Stand p l e R s m args below meth c B.U B.locs B.cells B.slots ∧ Post ⟨T.setVm vm₁, locs, cells, slots⟩ (Value.ref b :: argsL).toArray v B ∧
      ∀ target, Steps p.tables e below (B.U.setTop { g with pc := g.pc + 3, stack := v.toList ++ rest }) target → Steps p.tables e below (T.setTop g) target) ∨
    (∃ (q : Addr) (vm₁ : Vm) (B : Pt), s.WarmedH vm₁ ∧ Stand p l e R s m args below meth c B.U B.locs B.cells B.slots ∧ PostX ⟨T.setVm vm₁, locs, cells, slots⟩ (Value.ref b :: argsL).toArray q B ∧
      Steps p.tables e below (T.setTop g) ((B.U.setTop { g with stack := rest }).pushFrame (.throwing q))) := by
  obtain ⟨mk, methM, hnamed, hmethM, hstM, habM⟩ := Cond.instanceMethod_spec hinst
  obtain ⟨m8, methM', cM, hn8, hmethM', -, -, -, -, -, -, hsigM⟩ := Cond.codeWith_spec hcode
  cases Option.some.inj (hn8.symm.trans hnamed)
  cases hmethM.symm.trans hmethM'
  obtain ⟨c2, r2, m2, q1, q2, q3, q4, kP, hkP, hkPi⟩ := Cond.selects_spec hsel
  cases hcls.symm.trans q1
  cases (State.methodFound?_of_named hnamed hy).symm.trans q2
  cases hnamed.symm.trans q3
  have hselP : selectMethod e.platform s.vm cellB.cls mk = .method mk := by rw [Launch.admits_selectMethod X.admits]; exact q4
  obtain ⟨vm₁, X₁, hstep₁⟩ := X.invokevirtual hexec hown hlink hnamed hmethM hstM hkP hkPi hy (a := b) (cell := cellB) hcell
    (fun z h => by rw [h] at hobj; cases hobj) hselP hmethM habM hkP hkPi (g := g) hg (argsL := argsL) (rest := rest) (hlen _ hsigM) hstack hdg
  rcases hK m meth c ⟨T.setVm vm₁, locs, cells, slots⟩ { g with stack := rest } (.invokevirtual index) mk (Value.ref b :: argsL).toArray X₁ hg hsize hdg hW (X₁.named hnamed) (hpre vm₁ X₁.warmed) with ⟨v, B, X', hpost, hsteps⟩ | ⟨q, B, X', hpost, hsteps⟩
  · exact Or.inl ⟨v, vm₁, B, X₁.warmed, X', hpost, fun target h => hstep₁ _ fun acts => by rw [doInvoke_state]; exact hsteps.trans h⟩
  · exact Or.inr ⟨q, vm₁, B, X₁.warmed, X', hpost, hstep₁ _ fun acts => by rw [doInvoke_state]; exact hsteps⟩
theorem vx_callSX (X : Stand p l e R s m args below meth c T locs cells slots) (hexec : p.tables.exec = Jvm.exec) {own : String} {index : Nat} {y : MethodName} {bytes : ByteArray} {maxL : Nat} {ret : Option FieldType} {hh : List (Nat × Nat × Nat × Nat)}
    (hown : s.vm.findClass own = some m.cls) (hlink : (Cond.methodLink own index y).before args s = true) (hstat : (Cond.static y).before args s = true) (hinit : (Cond.initialized y.cls).before args s = true)
    (hcode : (Cond.codeWith y bytes maxL ret hh).before args s = true) (hy : y.cls ≠ "java/lang/invoke/MethodHandle" ∧ y.cls ≠ "java/lang/invoke/VarHandle")
    {W9 : Nat} {Pre : Pt → Array Value → Prop} {Post : Pt → Array Value → Option Value → Pt → Prop} {PostX : Pt → Array Value → Addr → Pt → Prop} (hK : vx_Back l R p e below s args y 3 W9 Pre Post PostX)
    {g : JFrame} (hg : g.method = m) (hsize : g.locals.size = c.maxLocals) {argsL rest : List Value} (hlen : ∀ sig, parseMethodDescriptor y.desc = some sig → argsL.length = sig.parameters.length)
    (hstack : g.stack = argsL.reverse ++ rest) (hW : 2 * g.monitorRoom + (rest.map fun v => v.category).sum ≤ W9) (hdg : decode c.code g.pc = .ok (.invokestatic index, 3))
    (hpre : ∀ vm₁, s.WarmedH vm₁ → Pre ⟨T.setVm vm₁, locs, cells, slots⟩ argsL.toArray) :
    (∃ (v : Option Value) (vm₁ : Vm) (B : Pt), s.WarmedH vm₁ ∧ Stand p l e R s m args below meth c B.U B.locs B.cells B.slots ∧ Post ⟨T.setVm vm₁, locs, cells, slots⟩ argsL.toArray v B ∧
      ∀ target, Steps p.tables e below (B.U.setTop { g with pc := g.pc + 3, stack := v.toList ++ rest }) target → Steps p.tables e below (T.setTop g) target) ∨
    (∃ (q : Addr) (vm₁ : Vm) (B : Pt), s.WarmedH vm₁ ∧ Stand p l e R s m args below meth c B.U B.locs B.cells B.slots ∧ PostX ⟨T.setVm vm₁, locs, cells, slots⟩ argsL.toArray q B ∧
      Steps p.tables e below (T.setTop g) ((B.U.setTop { g with stack := rest }).pushFrame (.throwing q))) := by
  obtain ⟨mk, methM, cM, hnamed, hmethM, -, -, -, -, -, -, hsigM⟩ := Cond.codeWith_spec hcode
  have hstatic : methM.isStatic = true := Cond.static_spec hnamed hmethM hstat
  obtain ⟨kP, hkP, -⟩ := className_of_methodNamed hnamed
  have hinitP : kP.init = .initialized := Cond.initialized_spec (findClass_of_methodNamed hnamed) hkP hinit
  obtain ⟨vm₁, X₁, hstep₁⟩ := X.invokestatic hexec hown hlink hnamed hmethM hstatic hkP hinitP hy (g := g) hg (argsL := argsL) (rest := rest) (hlen _ hsigM) hstack hdg
  rcases hK m meth c ⟨T.setVm vm₁, locs, cells, slots⟩ { g with stack := rest } (.invokestatic index) mk argsL.toArray X₁ hg hsize hdg hW (X₁.named hnamed) (hpre vm₁ X₁.warmed) with ⟨v, B, X', hpost, hsteps⟩ | ⟨q, B, X', hpost, hsteps⟩
  · exact Or.inl ⟨v, vm₁, B, X₁.warmed, X', hpost, fun target h => hstep₁ _ fun acts => by rw [doInvoke_state]; exact hsteps.trans h⟩
  · exact Or.inr ⟨q, vm₁, B, X₁.warmed, X', hpost, hstep₁ _ fun acts => by rw [doInvoke_state]; exact hsteps⟩
theorem vx_callVW (X : Stand p l e R s m args below meth c T locs cells slots) (hexec : p.tables.exec = Jvm.exec) {own C : String} {index : Nat} {y : MethodName} {bytes : ByteArray} {maxL : Nat} {ret : Option FieldType} {hh : List (Nat × Nat × Nat × Nat)}
    (hown : s.vm.findClass own = some m.cls) (hlink : (Cond.methodLink own index y).before args s = true) (hinst : (Cond.instanceMethod y).before args s = true) (hsel : (Cond.selects C y y).before args s = true)
    (hcode : (Cond.codeWith y bytes maxL ret hh).before args s = true) (hy : y.cls ≠ "java/lang/invoke/MethodHandle" ∧ y.cls ≠ "java/lang/invoke/VarHandle")
    {W9 : Nat} {Pre : Pt → Array Value → Prop} {Post : Pt → Array Value → Option Value → Pt → Prop} (hK : Back l R p e below s args y 3 W9 Pre Post)
    {b : Addr} {cellB : Cell} (hcell : T.heap[b]? = some cellB) (hobj : cellB.vm.isStatics = false) (hcls : s.vm.findClass C = some cellB.cls)
    {g : JFrame} (hg : g.method = m) (hsize : g.locals.size = c.maxLocals) {argsL rest : List Value} (hlen : ∀ sig, parseMethodDescriptor y.desc = some sig → argsL.length = sig.parameters.length)
    (hstack : g.stack = argsL.reverse ++ .ref b :: rest) (hW : 2 * g.monitorRoom + (rest.map fun v => v.category).sum ≤ W9) (hdg : decode c.code g.pc = .ok (.invokevirtual index, 3))
    (hpre : ∀ vm₁, s.WarmedH vm₁ → Pre ⟨T.setVm vm₁, locs, cells, slots⟩ (Value.ref b :: argsL).toArray) :
    ∃ (v : Option Value) (vm₁ : Vm) (B : Pt), s.WarmedH vm₁ ∧ Stand p l e R s m args below meth c B.U B.locs B.cells B.slots ∧ Post ⟨T.setVm vm₁, locs, cells, slots⟩ (Value.ref b :: argsL).toArray v B ∧
      ∀ target, Steps p.tables e below (B.U.setTop { g with pc := g.pc + 3, stack := v.toList ++ rest }) target → Steps p.tables e below (T.setTop g) target := by
  obtain ⟨mk, methM, hnamed, hmethM, hstM, habM⟩ := Cond.instanceMethod_spec hinst
  obtain ⟨m8, methM', cM, hn8, hmethM', -, -, -, -, -, -, hsigM⟩ := Cond.codeWith_spec hcode
  cases Option.some.inj (hn8.symm.trans hnamed)
  cases hmethM.symm.trans hmethM'
  obtain ⟨c2, r2, m2, q1, q2, q3, q4, kP, hkP, hkPi⟩ := Cond.selects_spec hsel
  cases hcls.symm.trans q1
  cases (State.methodFound?_of_named hnamed hy).symm.trans q2
  cases hnamed.symm.trans q3
  have hselP : selectMethod e.platform s.vm cellB.cls mk = .method mk := by rw [Launch.admits_selectMethod X.admits]; exact q4
  obtain ⟨vm₁, X₁, hstep₁⟩ := X.invokevirtual hexec hown hlink hnamed hmethM hstM hkP hkPi hy (a := b) (cell := cellB) hcell
    (fun z h => by rw [h] at hobj; cases hobj) hselP hmethM habM hkP hkPi (g := g) hg (argsL := argsL) (rest := rest) (hlen _ hsigM) hstack hdg
  obtain ⟨v, B, X', hpost, hsteps⟩ := hK m meth c ⟨T.setVm vm₁, locs, cells, slots⟩ { g with stack := rest } (.invokevirtual index) mk (Value.ref b :: argsL).toArray X₁ hg hsize hdg hW (X₁.named hnamed) (hpre vm₁ X₁.warmed)
  exact ⟨v, vm₁, B, X₁.warmed, X', hpost, fun target h => hstep₁ _ fun acts => by rw [doInvoke_state]; exact hsteps.trans h⟩
abbrev vx_CVW (R : Room) (s : State) (args : Array Value) (own C : String) (index : Nat) (y : MethodName) (bytes : ByteArray) (maxL : Nat) (ret : Option FieldType) (hh : List (Nat × Nat × Nat × Nat)) (ws : List Cond) (rm : Room) (mc ms n : Nat) : Prop :=
  (rm.cells = mc ∧ rm.slots = ms ∧ rm.frames + 1 ≤ R.frames ∧ 8 + (maxL + 11) + rm.locals ≤ R.locals ∧ (∀ w ∈ ws, ∀ (a' : Array Value) (U : State), s.WarmedH U.vm → w.before a' U = true) ∧ Cond.codeWith y bytes maxL ret hh ∈ ws) ∧
  (Cond.codeWith y bytes maxL ret hh).before args s = true ∧ (Cond.initialized y.cls).before args s = true ∧ (y.cls ≠ "java/lang/invoke/MethodHandle" ∧ y.cls ≠ "java/lang/invoke/VarHandle") ∧
  (∀ sig, parseMethodDescriptor y.desc = some sig → n = sig.parameters.length) ∧ (Cond.methodLink own index y).before args s = true ∧ (Cond.instanceMethod y).before args s = true ∧ (Cond.selects C y y).before args s = true
theorem vx_cwVW {own C : String} {index maxL mc ms : Nat} {y : MethodName} {bytes : ByteArray} {ret : Option FieldType} {hh : List (Nat × Nat × Nat × Nat)} {Ts ws ws' : List Cond} {rm : Room} (n : Nat) (ht : ∀ w ∈ Ts, w.before args s = true) (hT : GoodIn Ts (wsV own index C y ws)) (hw : ws = Cond.codeWith y bytes maxL ret hh :: ws') (hrc : rm.cells = mc) (hrs : rm.slots = ms)
    (hd : y.cls = C ∧ y.cls ≠ "java/lang/invoke/MethodHandle" ∧ y.cls ≠ "java/lang/invoke/VarHandle" ∧ (parseMethodDescriptor y.desc).map (fun d => d.parameters.length) = some n) (hR : rm.frames + 1 ≤ R.frames ∧ 8 + (maxL + 11) + rm.locals ≤ R.locals) :
    vx_CVW R s args own C index y bytes maxL ret hh ws rm mc ms n := by
  obtain ⟨hC, hd⟩ := hd
  subst hC
  have ok : ∀ w ∈ wsV own index y.cls y ws, w.before args s = true := fun w h => ht w (hT w h).1
  have hG : GoodIn Ts ws := fun w h => hT w (by unfold wsV; exact List.mem_append_right _ h)
  have hc : Cond.codeWith y bytes maxL ret hh ∈ ws := by rw [hw]; exact List.mem_cons_self
  refine ⟨⟨hrc, hrs, hR.1, hR.2, pay_in ht hG, hc⟩, ht _ (hG _ hc).1, ok _ (by simp [wsV]), ⟨hd.1, hd.2.1⟩, fun sig h => ?_, ok _ (by simp [wsV]), ok _ (by simp [wsV]), ok _ (by simp [wsV])⟩
  have h2 := hd.2.2
  rw [h] at h2
  exact (Option.some.inj h2).symm
theorem vx_runVW {y : MethodName} {bytes cc : ByteArray} {maxL nL mc ms n index : Nat} {ret : Option FieldType} {hh : List (Nat × Nat × Nat × Nat)} {ws : List Cond} {rm : Room} {Pc : Array Value → State → Prop} {Qc : Array Value → State → Outcome → State → Prop} {free : Addr → Prop} {Ts : List Cond} {own C : String} {b : Addr} {As rest : List Value} {g : JFrame}
    (S : CallFix p m c cc nL s args Ts own) (hM : Met l y ws rm Pc Qc mc ms free) (cw : vx_CVW R s args own C index y bytes maxL ret hh ws rm mc ms n) (hp : PreV s H C b Pc As)
    (hg : g.method = m) (hn : As.length = n) (hsize : g.locals.size = nL) (hstack : g.stack = As.reverse ++ .ref b :: rest) (hW : 2 * g.monitorRoom + (rest.map fun v => v.category).sum ≤ 8) (hdg : decode cc g.pc = .ok (.invokevirtual index, 3)) (hf : cells + mc ≤ R.cells ∧ slots + ms ≤ R.slots) :
    va_Run p l e R s m args below meth c H locs cells slots mc ms g rest (Qc (Value.ref b :: As).toArray) free := by
  obtain ⟨⟨hrc, hrs, hfr, hlo, hws, hcw⟩, hcode, hini, hy, hlen, hl, hin, hse⟩ := cw
  have hK : Back l R p e below s args y 3 8 (PreOf R mc ms Pc) (PostOf Qc mc ms free) := va_backW (hh := hh) (bytes := bytes) (maxL := maxL) (ret := ret) hM hp.1 hrc hrs hfr hlo hws hcw (fun a' U hW => word_at hW (Or.inl (by first | rfl | simp [Cond.onTables, Cond.keeps, Cond.steady])) hini)
  obtain ⟨hx, hb, hml, ho, -⟩ := S
  obtain ⟨-, ⟨cellB, hcB, hoB, hclB⟩, hPc⟩ := hp
  intro T hT X
  obtain ⟨v, vm₁, ⟨U', l2, c2, s2⟩, hW₁, X', ⟨g', mk, t, L, e1, e2, hq, h1, hL, h2, h3⟩, st⟩ := vx_callVW X hx (C := C) (hh := hh) (bytes := bytes) (maxL := maxL) (ret := ret) ho hl hin hse hcode hy hK (by rw [hT]; exact hcB) hoB hclB hg (hsize.trans hml.symm) (argsL := As) (rest := rest) (fun sig h => hn.trans (hlen sig h)) hstack hW (by rw [hb]; exact hdg)
    (fun vm₁ hW₁ => ⟨hf.1, hf.2, hPc (T.setVm vm₁) hT hW₁⟩)
  dsimp only [Pt.U, Pt.locs, Pt.cells, Pt.slots] at X' e1 e2 h1 h2 h3 st
  subst h1; subst h2; subst h3
  exact ⟨v, (T.setVm vm₁).calling g' mk (Value.ref b :: As).toArray, t, U', L, hT, X', hL, e1, e2, hq, st⟩
section
variable {y : MethodName} {bytes cc : ByteArray} {maxL nL mc ms n index : Nat} {ret : Option FieldType} {ws : List Cond} {rm : Room} {Pc : Array Value → State → Prop} {Qc : Array Value → State → Outcome → State → Prop} {XC : String → State → State → Prop} {free : Addr → Prop} {Ts : List Cond} {own C : String} {b : Addr} {As rest : List Value} {g : JFrame}
theorem vx_runVX {hh : List (Nat × Nat × Nat × Nat)} (S : CallFix p m c cc nL s args Ts own) (hM : vx_Met l y ws rm Pc Qc XC mc ms free) (cw : vx_CVW R s args own C index y bytes maxL ret hh ws rm mc ms n) (hp : PreV s H C b Pc As)
    (hg : g.method = m) (hn : As.length = n) (hsize : g.locals.size = nL) (hstack : g.stack = As.reverse ++ .ref b :: rest) (hW : 2 * g.monitorRoom + (rest.map fun v => v.category).sum ≤ 8) (hdg : decode cc g.pc = .ok (.invokevirtual index, 3)) (hf : cells + mc ≤ R.cells ∧ slots + ms ≤ R.slots) :
    vx_Run p l e R s m args below meth c H locs cells slots mc ms g rest (Qc (Value.ref b :: As).toArray) XC free := by
  obtain ⟨⟨hrc, hrs, hfr, hlo, hws, hcw⟩, hcode, hini, hy, hlen, hl, hin, hse⟩ := cw
  have hK : vx_Back l R p e below s args y 3 8 (PreOf R mc ms Pc) (PostOf Qc mc ms free) (vx_Post XC mc ms free) := vx_backW (hh := hh) (bytes := bytes) (maxL := maxL) (ret := ret) hM hp.1 hrc hrs hfr hlo hws hcw (fun a' U hW => word_at hW (Or.inl (by first | rfl | simp [Cond.onTables, Cond.keeps, Cond.steady])) hini)
  obtain ⟨hx, hb, hml, ho, -⟩ := S
  obtain ⟨-, ⟨cellB, hcB, hoB, hclB⟩, hPc⟩ := hp
  intro T hT X
  rcases vx_callVX X hx (C := C) (hh := hh) (bytes := bytes) (maxL := maxL) (ret := ret) ho hl hin hse hcode hy hK (by rw [hT]; exact hcB) hoB hclB hg (hsize.trans hml.symm) (argsL := As) (rest := rest) (fun sig h => hn.trans (hlen sig h)) hstack hW (by rw [hb]; exact hdg)
    (fun vm₁ hW₁ => ⟨hf.1, hf.2, hPc (T.setVm vm₁) hT hW₁⟩) with ⟨v, vm₁, ⟨U', l2, c2, s2⟩, hW₁, X', ⟨g', mk, t, L, e1, e2, hq, h1, hL, h2, h3⟩, st⟩ | ⟨q, vm₁, ⟨U', l2, c2, s2⟩, hW₁, X', ⟨g', mk, t, L, E, ce, e1, e2, hq, hce, hcv, hcl, h1, hL, h2, h3⟩, st⟩
  · dsimp only [Pt.U, Pt.locs, Pt.cells, Pt.slots] at X' e1 e2 h1 h2 h3 st
    subst h1; subst h2; subst h3
    exact Or.inl ⟨v, (T.setVm vm₁).calling g' mk (Value.ref b :: As).toArray, t, U', L, hT, X', hL, e1, e2, hq, st⟩
  · dsimp only [Pt.U, Pt.locs, Pt.cells, Pt.slots] at X' e1 e2 h1 h2 h3 st hcl
    subst h1; subst h2; subst h3
    exact Or.inr ⟨q, (T.setVm vm₁).calling g' mk (Value.ref b :: As).toArray, t, U', L, E, ce, hT, X', hL, e1, e2, hq, hce, hcv, vx_cls hW₁ hcl, st⟩
theorem vx_runSX {hh : List (Nat × Nat × Nat × Nat)} (S : CallFix p m c cc nL s args Ts own) (hM : vx_Met l y ws rm Pc Qc XC mc ms free) (cw : vx_CSW R s args own index y bytes maxL ret hh ws rm mc ms n) (hp : PreS s H Pc As)
    (hg : g.method = m) (hn : As.length = n) (hsize : g.locals.size = nL) (hstack : g.stack = As.reverse ++ rest) (hW : 2 * g.monitorRoom + (rest.map fun v => v.category).sum ≤ 8) (hdg : decode cc g.pc = .ok (.invokestatic index, 3)) (hf : cells + mc ≤ R.cells ∧ slots + ms ≤ R.slots) :
    vx_Run p l e R s m args below meth c H locs cells slots mc ms g rest (Qc As.toArray) XC free := by
  obtain ⟨⟨hrc, hrs, hfr, hlo, hws, hcw⟩, hcode, hini, hy, hlen, hl, hstt⟩ := cw
  have hK : vx_Back l R p e below s args y 3 8 (PreOf R mc ms Pc) (PostOf Qc mc ms free) (vx_Post XC mc ms free) := vx_backW (hh := hh) (bytes := bytes) (maxL := maxL) (ret := ret) hM hp.1 hrc hrs hfr hlo hws hcw (fun a' U hW => word_at hW (Or.inl (by first | rfl | simp [Cond.onTables, Cond.keeps, Cond.steady])) hini)
  obtain ⟨hx, hb, hml, ho, -⟩ := S
  intro T hT X
  rcases vx_callSX X hx (hh := hh) (bytes := bytes) (maxL := maxL) (ret := ret) ho hl hstt hini hcode hy hK hg (hsize.trans hml.symm) (argsL := As) (rest := rest) (fun sig h => hn.trans (hlen sig h)) hstack hW (by rw [hb]; exact hdg)
    (fun vm₁ hW₁ => ⟨hf.1, hf.2, hp.2 (T.setVm vm₁) hT hW₁⟩) with ⟨v, vm₁, ⟨U', l2, c2, s2⟩, hW₁, X', ⟨g', mk, t, L, e1, e2, hq, h1, hL, h2, h3⟩, st⟩ | ⟨q, vm₁, ⟨U', l2, c2, s2⟩, hW₁, X', ⟨g', mk, t, L, E, ce, e1, e2, hq, hce, hcv, hcl, h1, hL, h2, h3⟩, st⟩
  · dsimp only [Pt.U, Pt.locs, Pt.cells, Pt.slots] at X' e1 e2 h1 h2 h3 st
    subst h1; subst h2; subst h3
    exact Or.inl ⟨v, (T.setVm vm₁).calling g' mk As.toArray, t, U', L, hT, X', hL, e1, e2, hq, st⟩
  · dsimp only [Pt.U, Pt.locs, Pt.cells, Pt.slots] at X' e1 e2 h1 h2 h3 st hcl
    subst h1; subst h2; subst h3
    exact Or.inr ⟨q, (T.setVm vm₁).calling g' mk As.toArray, t, U', L, E, ce, hT, X', hL, e1, e2, hq, hce, hcv, vx_cls hW₁ hcl, st⟩
end
end VXH
theorem vx_ofWH {l : Launch} {y : MethodName} {ws ws' : List Cond} {rm : Room} {Pc : Array Value → State → Prop} {Qc : Array Value → State → Outcome → State → Prop} {XC : String → State → State → Prop} {mc ms : Nat} {free : Addr → Prop} {cc : ByteArray} {maxL : Nat} {ret : Option FieldType} {hh : List (Nat × Nat × Nat × Nat)}
    (hy : plainName y.cls = true) (hw : ws = Cond.codeWith y cc maxL ret hh :: ws')
    (body : ∀ p e s m args below meth c s₁, BodyLoose p l y (headSpec ws rm) cc maxL ret e s m args below meth c s₁ → c.maxLocals = maxL → Pc args s →
      W p l e (headSpec ws rm).room s m args below meth c s.heap [] 0 0 (vx_MQ below Qc XC args s mc ms free) (entryFrame m args maxL)) : vx_Met l y ws rm Pc Qc XC mc ms free := by
  refine MetFree.of_bodyS (code := cc) (maxLocals := maxL) (ret := ret) hy ?_ ?_
  · intro args s m h hn
    obtain ⟨m9, meth, c, hn9, h1, h2, h3, h4, -, h5, h6, -⟩ := Cond.codeWith_spec (atoms_spec (ws := ws) h _ (by rw [hw]; exact List.mem_cons_self))
    cases hn.symm.trans hn9
    exact ⟨meth, c, h1, h2, h3, h4, h5, h6⟩
  · intro p e s m args below meth c s₁ B hml hP _
    have hh0 : s₁.heap = s.heap := by rw [B.state]; rfl
    obtain ⟨t, a1, o, b1, b2, b3⟩ := body p e s m args below meth c s₁ B hml hP s₁ hh0 (Stand.of_body B)
    exact ⟨t, o, a1, b1, b2, b3⟩
/-! ===== END ===== -/
end
section
/-! ===== BEGIN printed: names, fields, word lists, decode rows ===== -/
def RX0 : String := "Alarmgrove$Diagnoser"
def TX0 : u_T := fun k => match k with
  | 0 => ("Alarmgrove$Diagnoser", "graph", "LAlarmgrove$Graph;", true)
  | 1 => ("Alarmgrove$Diagnoser", "raised", "I", true)
  | _ => ("Alarmgrove$Diagnoser", "plausible", "I", true)
def tyX0 : Nat → FieldType := fun k => match k with
  | 0 => .object "Alarmgrove$Graph"
  | 1 => .int
  | _ => .int
abbrev wsX00 : List Cond := u_ws RX0 TX0 3
theorem nmX0 : ∀ a, a < 3 → ∀ b, b < 3 → a ≠ b → (TX0 a).2.1 ≠ (TX0 b).2.1 := by decide +kernel
theorem tyX0_ok : ∀ k, k < 3 → parseFieldDescriptor (TX0 k).2.2.1 = some (tyX0 k) := by decide +kernel
abbrev cX0_init : ByteArray := prog_2_method_1_code
def yX0_init : MethodName := ⟨RX0, "<init>", "(LAlarmgrove$Graph;I)V"⟩
abbrev cX0_plausibleNodes : ByteArray := prog_2_method_2_code
def yX0_plausibleNodes : MethodName := ⟨RX0, "plausibleNodes", "()I"⟩
abbrev cX0_bestBySearch : ByteArray := prog_2_method_3_code
def yX0_bestBySearch : MethodName := ⟨RX0, "bestBySearch", "()I"⟩
abbrev cX0_bestByTrying : ByteArray := prog_2_method_4_code
def yX0_bestByTrying : MethodName := ⟨RX0, "bestByTrying", "()I"⟩
abbrev cX0_greedyCount : ByteArray := prog_2_method_5_code
def yX0_greedyCount : MethodName := ⟨RX0, "greedyCount", "()I"⟩
abbrev cX0_greedyAt : ByteArray := prog_2_method_6_code
def yX0_greedyAt : MethodName := ⟨RX0, "greedyAt", "(I)I"⟩
abbrev cX0_greedyNext : ByteArray := prog_2_method_7_code
def yX0_greedyNext : MethodName := ⟨RX0, "greedyNext", "(I)I"⟩
abbrev cX0_search : ByteArray := prog_2_method_8_code
def yX0_search : MethodName := ⟨RX0, "search", "(LAlarmgrove$Diagnoser;IIIII)I"⟩
abbrev cX0_isBetter : ByteArray := prog_2_method_9_code
def yX0_isBetter : MethodName := ⟨RX0, "isBetter", "(II)Z"⟩
abbrev cX0_explainsAll : ByteArray := prog_2_method_10_code
def yX0_explainsAll : MethodName := ⟨RX0, "explainsAll", "(I)Z"⟩
abbrev cX0_plausibleOf : ByteArray := prog_2_method_11_code
def yX0_plausibleOf : MethodName := ⟨RX0, "plausibleOf", "(LAlarmgrove$Graph;I)I"⟩
def RX1 : String := "Alarmgrove$Graph"
def TX1 : u_T := fun k => match k with
  | 0 => ("Alarmgrove$Graph", "needed", "[I", true)
  | 1 => ("Alarmgrove$Graph", "users", "[I", true)
  | 2 => ("Alarmgrove$Graph", "below", "[I", true)
  | _ => ("Alarmgrove$Graph", "above", "[I", true)
def tyX1 : Nat → FieldType := fun k => match k with
  | 0 => .array .int
  | 1 => .array .int
  | 2 => .array .int
  | _ => .array .int
abbrev wsX10 : List Cond := u_ws RX1 TX1 4
theorem nmX1 : ∀ a, a < 4 → ∀ b, b < 4 → a ≠ b → (TX1 a).2.1 ≠ (TX1 b).2.1 := by decide +kernel
theorem tyX1_ok : ∀ k, k < 4 → parseFieldDescriptor (TX1 k).2.2.1 = some (tyX1 k) := by decide +kernel
abbrev cX1_init : ByteArray := prog_3_method_1_code
def yX1_init : MethodName := ⟨RX1, "<init>", "()V"⟩
abbrev cX1_needed : ByteArray := prog_3_method_2_code
def yX1_needed : MethodName := ⟨RX1, "needed", "(I)I"⟩
abbrev cX1_users : ByteArray := prog_3_method_3_code
def yX1_users : MethodName := ⟨RX1, "users", "(I)I"⟩
abbrev cX1_below : ByteArray := prog_3_method_4_code
def yX1_below : MethodName := ⟨RX1, "below", "(I)I"⟩
abbrev cX1_above : ByteArray := prog_3_method_5_code
def yX1_above : MethodName := ⟨RX1, "above", "(I)I"⟩
abbrev cX1_explainersOf : ByteArray := prog_3_method_6_code
def yX1_explainersOf : MethodName := ⟨RX1, "explainersOf", "(I)I"⟩
abbrev cX1_explainedBy : ByteArray := prog_3_method_7_code
def yX1_explainedBy : MethodName := ⟨RX1, "explainedBy", "(I)I"⟩
abbrev cX1_link : ByteArray := prog_3_method_8_code
def yX1_link : MethodName := ⟨RX1, "link", "(II)Z"⟩
abbrev cX1_unlink : ByteArray := prog_3_method_9_code
def yX1_unlink : MethodName := ⟨RX1, "unlink", "(II)Z"⟩
abbrev cX1_longestWayDown : ByteArray := prog_3_method_10_code
def yX1_longestWayDown : MethodName := ⟨RX1, "longestWayDown", "(I)I"⟩
abbrev cX1_followAll : ByteArray := prog_3_method_11_code
def yX1_followAll : MethodName := ⟨RX1, "followAll", "()V"⟩
abbrev cX1_follow : ByteArray := prog_3_method_12_code
def yX1_follow : MethodName := ⟨RX1, "follow", "([II)I"⟩
abbrev cX1_step : ByteArray := prog_3_method_13_code
def yX1_step : MethodName := ⟨RX1, "step", "([II)I"⟩
def RX2 : String := "Alarmgrove$Log"
def TX2 : u_T := fun k => match k with
  | 0 => ("Alarmgrove$Log", "kinds", "[I", true)
  | 1 => ("Alarmgrove$Log", "nodes", "[I", true)
  | 2 => ("Alarmgrove$Log", "times", "[I", true)
  | 3 => ("Alarmgrove$Log", "lengths", "[I", true)
  | 4 => ("Alarmgrove$Log", "raisedAt", "[I", true)
  | _ => ("Alarmgrove$Log", "count", "I", false)
def tyX2 : Nat → FieldType := fun k => match k with
  | 0 => .array .int
  | 1 => .array .int
  | 2 => .array .int
  | 3 => .array .int
  | 4 => .array .int
  | _ => .int
abbrev wsX20 : List Cond := u_ws RX2 TX2 6
theorem nmX2 : ∀ a, a < 6 → ∀ b, b < 6 → a ≠ b → (TX2 a).2.1 ≠ (TX2 b).2.1 := by decide +kernel
theorem tyX2_ok : ∀ k, k < 6 → parseFieldDescriptor (TX2 k).2.2.1 = some (tyX2 k) := by decide +kernel
abbrev cX2_init : ByteArray := prog_4_method_1_code
def yX2_init : MethodName := ⟨RX2, "<init>", "()V"⟩
abbrev cX2_isFull : ByteArray := prog_4_method_2_code
def yX2_isFull : MethodName := ⟨RX2, "isFull", "()Z"⟩
abbrev cX2_count : ByteArray := prog_4_method_3_code
def yX2_count : MethodName := ⟨RX2, "count", "()I"⟩
abbrev cX2_kindAt : ByteArray := prog_4_method_4_code
def yX2_kindAt : MethodName := ⟨RX2, "kindAt", "(I)I"⟩
abbrev cX2_nodeAt : ByteArray := prog_4_method_5_code
def yX2_nodeAt : MethodName := ⟨RX2, "nodeAt", "(I)I"⟩
abbrev cX2_timeAt : ByteArray := prog_4_method_6_code
def yX2_timeAt : MethodName := ⟨RX2, "timeAt", "(I)I"⟩
abbrev cX2_lengthAt : ByteArray := prog_4_method_7_code
def yX2_lengthAt : MethodName := ⟨RX2, "lengthAt", "(I)I"⟩
abbrev cX2_addRaise : ByteArray := prog_4_method_8_code
def yX2_addRaise : MethodName := ⟨RX2, "addRaise", "(II)V"⟩
abbrev cX2_addClear : ByteArray := prog_4_method_9_code
def yX2_addClear : MethodName := ⟨RX2, "addClear", "(II)V"⟩
abbrev cX2_raisesAfter : ByteArray := prog_4_method_10_code
def yX2_raisesAfter : MethodName := ⟨RX2, "raisesAfter", "(II)I"⟩
abbrev cX2_add : ByteArray := prog_4_method_11_code
def yX2_add : MethodName := ⟨RX2, "add", "(IIII)V"⟩
def RX3 : String := "Alarmgrove$Tickets"
def TX3 : u_T := fun k => match k with
  | 0 => ("Alarmgrove$Tickets", "numbers", "[I", true)
  | 1 => ("Alarmgrove$Tickets", "sizes", "[I", true)
  | 2 => ("Alarmgrove$Tickets", "targets", "[I", true)
  | _ => ("Alarmgrove$Tickets", "newest", "I", false)
def tyX3 : Nat → FieldType := fun k => match k with
  | 0 => .array .int
  | 1 => .array .int
  | 2 => .array .int
  | _ => .int
abbrev wsX30 : List Cond := u_ws RX3 TX3 4
theorem nmX3 : ∀ a, a < 4 → ∀ b, b < 4 → a ≠ b → (TX3 a).2.1 ≠ (TX3 b).2.1 := by decide +kernel
theorem tyX3_ok : ∀ k, k < 4 → parseFieldDescriptor (TX3 k).2.2.1 = some (tyX3 k) := by decide +kernel
abbrev cX3_init : ByteArray := prog_5_method_1_code
def yX3_init : MethodName := ⟨RX3, "<init>", "()V"⟩
abbrev cX3_numberOf : ByteArray := prog_5_method_2_code
def yX3_numberOf : MethodName := ⟨RX3, "numberOf", "(I)I"⟩
abbrev cX3_stateOf : ByteArray := prog_5_method_3_code
def yX3_stateOf : MethodName := ⟨RX3, "stateOf", "(I)I"⟩
abbrev cX3_sizeOf : ByteArray := prog_5_method_4_code
def yX3_sizeOf : MethodName := ⟨RX3, "sizeOf", "(I)I"⟩
abbrev cX3_targetOf : ByteArray := prog_5_method_5_code
def yX3_targetOf : MethodName := ⟨RX3, "targetOf", "(I)I"⟩
abbrev cX3_countOpen : ByteArray := prog_5_method_6_code
def yX3_countOpen : MethodName := ⟨RX3, "countOpen", "()I"⟩
abbrev cX3_join : ByteArray := prog_5_method_7_code
def yX3_join : MethodName := ⟨RX3, "join", "(II)I"⟩
abbrev cX3_leave : ByteArray := prog_5_method_8_code
def yX3_leave : MethodName := ⟨RX3, "leave", "(I)I"⟩
abbrev cX3_isUsed : ByteArray := prog_5_method_9_code
def yX3_isUsed : MethodName := ⟨RX3, "isUsed", "(I)Z"⟩
abbrev cX3_openNew : ByteArray := prog_5_method_10_code
def yX3_openNew : MethodName := ⟨RX3, "openNew", "()I"⟩
abbrev cX3_unite : ByteArray := prog_5_method_11_code
def yX3_unite : MethodName := ⟨RX3, "unite", "(I)I"⟩
abbrev cX3_merge : ByteArray := prog_5_method_12_code
def yX3_merge : MethodName := ⟨RX3, "merge", "(II)V"⟩
def RX4 : String := "Alarmgrove"
def TX4 : u_T := fun k => match k with
  | 0 => ("Alarmgrove", "graph", "LAlarmgrove$Graph;", true)
  | 1 => ("Alarmgrove", "log", "LAlarmgrove$Log;", true)
  | 2 => ("Alarmgrove", "tickets", "LAlarmgrove$Tickets;", true)
  | 3 => ("Alarmgrove", "raised", "I", false)
  | _ => ("Alarmgrove", "time", "I", false)
def tyX4 : Nat → FieldType := fun k => match k with
  | 0 => .object "Alarmgrove$Graph"
  | 1 => .object "Alarmgrove$Log"
  | 2 => .object "Alarmgrove$Tickets"
  | 3 => .int
  | _ => .int
abbrev wsX40 : List Cond := u_ws RX4 TX4 5
theorem nmX4 : ∀ a, a < 5 → ∀ b, b < 5 → a ≠ b → (TX4 a).2.1 ≠ (TX4 b).2.1 := by decide +kernel
theorem tyX4_ok : ∀ k, k < 5 → parseFieldDescriptor (TX4 k).2.2.1 = some (tyX4 k) := by decide +kernel
abbrev cX4_init : ByteArray := prog_1_method_1_code
def yX4_init : MethodName := ⟨RX4, "<init>", "()V"⟩
abbrev cX4_need : ByteArray := prog_1_method_2_code
def yX4_need : MethodName := ⟨RX4, "need", "(II)Z"⟩
abbrev cX4_release : ByteArray := prog_1_method_3_code
def yX4_release : MethodName := ⟨RX4, "release", "(II)Z"⟩
abbrev cX4_needs : ByteArray := prog_1_method_4_code
def yX4_needs : MethodName := ⟨RX4, "needs", "(II)Z"⟩
abbrev cX4_dependsOn : ByteArray := prog_1_method_5_code
def yX4_dependsOn : MethodName := ⟨RX4, "dependsOn", "(II)Z"⟩
abbrev cX4_height : ByteArray := prog_1_method_6_code
def yX4_height : MethodName := ⟨RX4, "height", "(I)I"⟩
abbrev cX4_tick : ByteArray := prog_1_method_7_code
def yX4_tick : MethodName := ⟨RX4, "tick", "(I)I"⟩
abbrev cX4_now : ByteArray := prog_1_method_8_code
def yX4_now : MethodName := ⟨RX4, "now", "()I"⟩
abbrev cX4_raise : ByteArray := prog_1_method_9_code
def yX4_raise : MethodName := ⟨RX4, "raise", "(I)I"⟩
abbrev cX4_clear : ByteArray := prog_1_method_10_code
def yX4_clear : MethodName := ⟨RX4, "clear", "(I)I"⟩
abbrev cX4_state : ByteArray := prog_1_method_11_code
def yX4_state : MethodName := ⟨RX4, "state", "(I)I"⟩
abbrev cX4_nodesThatAre : ByteArray := prog_1_method_12_code
def yX4_nodesThatAre : MethodName := ⟨RX4, "nodesThatAre", "(I)I"⟩
abbrev cX4_raises : ByteArray := prog_1_method_13_code
def yX4_raises : MethodName := ⟨RX4, "raises", "(II)I"⟩
abbrev cX4_stateNow : ByteArray := prog_1_method_14_code
def yX4_stateNow : MethodName := ⟨RX4, "stateNow", "(I)I"⟩
abbrev cX4_events : ByteArray := prog_1_method_15_code
def yX4_events : MethodName := ⟨RX4, "events", "()I"⟩
abbrev cX4_eventKind : ByteArray := prog_1_method_16_code
def yX4_eventKind : MethodName := ⟨RX4, "eventKind", "(I)I"⟩
abbrev cX4_eventNode : ByteArray := prog_1_method_17_code
def yX4_eventNode : MethodName := ⟨RX4, "eventNode", "(I)I"⟩
abbrev cX4_eventTime : ByteArray := prog_1_method_18_code
def yX4_eventTime : MethodName := ⟨RX4, "eventTime", "(I)I"⟩
abbrev cX4_eventLength : ByteArray := prog_1_method_19_code
def yX4_eventLength : MethodName := ⟨RX4, "eventLength", "(I)I"⟩
abbrev cX4_openTickets : ByteArray := prog_1_method_20_code
def yX4_openTickets : MethodName := ⟨RX4, "openTickets", "()I"⟩
abbrev cX4_ticketOf : ByteArray := prog_1_method_21_code
def yX4_ticketOf : MethodName := ⟨RX4, "ticketOf", "(I)I"⟩
abbrev cX4_ticketState : ByteArray := prog_1_method_22_code
def yX4_ticketState : MethodName := ⟨RX4, "ticketState", "(I)I"⟩
abbrev cX4_ticketSize : ByteArray := prog_1_method_23_code
def yX4_ticketSize : MethodName := ⟨RX4, "ticketSize", "(I)I"⟩
abbrev cX4_mergedInto : ByteArray := prog_1_method_24_code
def yX4_mergedInto : MethodName := ⟨RX4, "mergedInto", "(I)I"⟩
abbrev cX4_isPlausible : ByteArray := prog_1_method_25_code
def yX4_isPlausible : MethodName := ⟨RX4, "isPlausible", "(I)Z"⟩
abbrev cX4_causes : ByteArray := prog_1_method_26_code
def yX4_causes : MethodName := ⟨RX4, "causes", "()I"⟩
abbrev cX4_cause : ByteArray := prog_1_method_27_code
def yX4_cause : MethodName := ⟨RX4, "cause", "(I)I"⟩
abbrev cX4_causeByTrying : ByteArray := prog_1_method_28_code
def yX4_causeByTrying : MethodName := ⟨RX4, "causeByTrying", "(I)I"⟩
abbrev cX4_greedyCauses : ByteArray := prog_1_method_29_code
def yX4_greedyCauses : MethodName := ⟨RX4, "greedyCauses", "()I"⟩
abbrev cX4_greedyCause : ByteArray := prog_1_method_30_code
def yX4_greedyCause : MethodName := ⟨RX4, "greedyCause", "(I)I"⟩
abbrev cX4_causeOf : ByteArray := prog_1_method_31_code
def yX4_causeOf : MethodName := ⟨RX4, "causeOf", "(I)I"⟩
abbrev cX4_diagnoser : ByteArray := prog_1_method_32_code
def yX4_diagnoser : MethodName := ⟨RX4, "diagnoser", "()LAlarmgrove$Diagnoser;"⟩
abbrev cX4_checkNode : ByteArray := prog_1_method_33_code
def yX4_checkNode : MethodName := ⟨RX4, "checkNode", "(I)V"⟩
abbrev cX4_checkTicks : ByteArray := prog_1_method_34_code
def yX4_checkTicks : MethodName := ⟨RX4, "checkTicks", "(II)V"⟩
abbrev cX4_checkChange : ByteArray := prog_1_method_35_code
def yX4_checkChange : MethodName := ⟨RX4, "checkChange", "(Z)V"⟩
abbrev cX4_checkEvent : ByteArray := prog_1_method_36_code
def yX4_checkEvent : MethodName := ⟨RX4, "checkEvent", "(I)V"⟩
abbrev cX4_nodeThere : ByteArray := prog_1_method_37_code
def yX4_nodeThere : MethodName := ⟨RX4, "nodeThere", "(II)I"⟩
abbrev cX4_only : ByteArray := prog_1_method_38_code
def yX4_only : MethodName := ⟨RX4, "only", "(I)I"⟩
abbrev cX4_has : ByteArray := prog_1_method_39_code
def yX4_has : MethodName := ⟨RX4, "has", "(II)Z"⟩
abbrev cX4_nodeAtPlace : ByteArray := prog_1_method_40_code
def yX4_nodeAtPlace : MethodName := ⟨RX4, "nodeAtPlace", "(II)I"⟩
def RX5 : String := "AlarmgroveModel"
def TX5 : u_T := fun k => match k with
  | 0 => ("AlarmgroveModel", "needs", "[I", true)
  | 1 => ("AlarmgroveModel", "under", "[I", true)
  | 2 => ("AlarmgroveModel", "raised", "I", false)
  | 3 => ("AlarmgroveModel", "since", "[I", true)
  | 4 => ("AlarmgroveModel", "ticket", "[I", true)
  | 5 => ("AlarmgroveModel", "nodes", "[I", true)
  | 6 => ("AlarmgroveModel", "states", "[I", true)
  | 7 => ("AlarmgroveModel", "into", "[I", true)
  | 8 => ("AlarmgroveModel", "tickets", "I", false)
  | 9 => ("AlarmgroveModel", "kind", "[I", true)
  | 10 => ("AlarmgroveModel", "node", "[I", true)
  | 11 => ("AlarmgroveModel", "time", "[I", true)
  | 12 => ("AlarmgroveModel", "length", "[I", true)
  | 13 => ("AlarmgroveModel", "events", "I", false)
  | 14 => ("AlarmgroveModel", "now", "I", false)
  | _ => ("AlarmgroveModel", "thrown", "I", false)
def tyX5 : Nat → FieldType := fun k => match k with
  | 0 => .array .int
  | 1 => .array .int
  | 2 => .int
  | 3 => .array .int
  | 4 => .array .int
  | 5 => .array .int
  | 6 => .array .int
  | 7 => .array .int
  | 8 => .int
  | 9 => .array .int
  | 10 => .array .int
  | 11 => .array .int
  | 12 => .array .int
  | 13 => .int
  | 14 => .int
  | _ => .int
abbrev wsX50 : List Cond := u_ws RX5 TX5 16
theorem nmX5 : ∀ a, a < 16 → ∀ b, b < 16 → a ≠ b → (TX5 a).2.1 ≠ (TX5 b).2.1 := by decide +kernel
theorem tyX5_ok : ∀ k, k < 16 → parseFieldDescriptor (TX5 k).2.2.1 = some (tyX5 k) := by decide +kernel
abbrev cX5_init : ByteArray := prog_7_method_1_code
def yX5_init : MethodName := ⟨RX5, "<init>", "()V"⟩
abbrev cX5_thrown : ByteArray := prog_7_method_2_code
def yX5_thrown : MethodName := ⟨RX5, "thrown", "()I"⟩
abbrev cX5_goes : ByteArray := prog_7_method_3_code
def yX5_goes : MethodName := ⟨RX5, "goes", "(ZZ)Z"⟩
abbrev cX5_isNode : ByteArray := prog_7_method_4_code
def yX5_isNode : MethodName := ⟨RX5, "isNode", "(I)Z"⟩
abbrev cX5_has : ByteArray := prog_7_method_5_code
def yX5_has : MethodName := ⟨RX5, "has", "(II)Z"⟩
abbrev cX5_count : ByteArray := prog_7_method_6_code
def yX5_count : MethodName := ⟨RX5, "count", "(I)I"⟩
abbrev cX5_at : ByteArray := prog_7_method_7_code
def yX5_at : MethodName := ⟨RX5, "at", "(II)I"⟩
abbrev cX5_closes : ByteArray := prog_7_method_8_code
def yX5_closes : MethodName := ⟨RX5, "closes", "()V"⟩
abbrev cX5_need : ByteArray := prog_7_method_9_code
def yX5_need : MethodName := ⟨RX5, "need", "(II)Z"⟩
abbrev cX5_release : ByteArray := prog_7_method_10_code
def yX5_release : MethodName := ⟨RX5, "release", "(II)Z"⟩
abbrev cX5_needs : ByteArray := prog_7_method_11_code
def yX5_needs : MethodName := ⟨RX5, "needs", "(II)Z"⟩
abbrev cX5_dependsOn : ByteArray := prog_7_method_12_code
def yX5_dependsOn : MethodName := ⟨RX5, "dependsOn", "(II)Z"⟩
abbrev cX5_height : ByteArray := prog_7_method_13_code
def yX5_height : MethodName := ⟨RX5, "height", "(I)I"⟩
abbrev cX5_tick : ByteArray := prog_7_method_14_code
def yX5_tick : MethodName := ⟨RX5, "tick", "(I)I"⟩
abbrev cX5_now : ByteArray := prog_7_method_15_code
def yX5_now : MethodName := ⟨RX5, "now", "()I"⟩
abbrev cX5_notes : ByteArray := prog_7_method_16_code
def yX5_notes : MethodName := ⟨RX5, "notes", "(III)V"⟩
abbrev cX5_kin : ByteArray := prog_7_method_17_code
def yX5_kin : MethodName := ⟨RX5, "kin", "(I)I"⟩
abbrev cX5_raise : ByteArray := prog_7_method_18_code
def yX5_raise : MethodName := ⟨RX5, "raise", "(I)I"⟩
abbrev cX5_clear : ByteArray := prog_7_method_19_code
def yX5_clear : MethodName := ⟨RX5, "clear", "(I)I"⟩
abbrev cX5_raisesOf : ByteArray := prog_7_method_20_code
def yX5_raisesOf : MethodName := ⟨RX5, "raisesOf", "(II)I"⟩
abbrev cX5_stateOf : ByteArray := prog_7_method_21_code
def yX5_stateOf : MethodName := ⟨RX5, "stateOf", "(I)I"⟩
abbrev cX5_state : ByteArray := prog_7_method_22_code
def yX5_state : MethodName := ⟨RX5, "state", "(I)I"⟩
abbrev cX5_nodesThatAre : ByteArray := prog_7_method_23_code
def yX5_nodesThatAre : MethodName := ⟨RX5, "nodesThatAre", "(I)I"⟩
abbrev cX5_raises : ByteArray := prog_7_method_24_code
def yX5_raises : MethodName := ⟨RX5, "raises", "(II)I"⟩
abbrev cX5_isEvent : ByteArray := prog_7_method_25_code
def yX5_isEvent : MethodName := ⟨RX5, "isEvent", "(I)Z"⟩
abbrev cX5_events : ByteArray := prog_7_method_26_code
def yX5_events : MethodName := ⟨RX5, "events", "()I"⟩
abbrev cX5_eventKind : ByteArray := prog_7_method_27_code
def yX5_eventKind : MethodName := ⟨RX5, "eventKind", "(I)I"⟩
abbrev cX5_eventNode : ByteArray := prog_7_method_28_code
def yX5_eventNode : MethodName := ⟨RX5, "eventNode", "(I)I"⟩
abbrev cX5_eventTime : ByteArray := prog_7_method_29_code
def yX5_eventTime : MethodName := ⟨RX5, "eventTime", "(I)I"⟩
abbrev cX5_eventLength : ByteArray := prog_7_method_30_code
def yX5_eventLength : MethodName := ⟨RX5, "eventLength", "(I)I"⟩
abbrev cX5_openTickets : ByteArray := prog_7_method_31_code
def yX5_openTickets : MethodName := ⟨RX5, "openTickets", "()I"⟩
abbrev cX5_ticketOf : ByteArray := prog_7_method_32_code
def yX5_ticketOf : MethodName := ⟨RX5, "ticketOf", "(I)I"⟩
abbrev cX5_isTicket : ByteArray := prog_7_method_33_code
def yX5_isTicket : MethodName := ⟨RX5, "isTicket", "(I)Z"⟩
abbrev cX5_ticketState : ByteArray := prog_7_method_34_code
def yX5_ticketState : MethodName := ⟨RX5, "ticketState", "(I)I"⟩
abbrev cX5_ticketSize : ByteArray := prog_7_method_35_code
def yX5_ticketSize : MethodName := ⟨RX5, "ticketSize", "(I)I"⟩
abbrev cX5_mergedInto : ByteArray := prog_7_method_36_code
def yX5_mergedInto : MethodName := ⟨RX5, "mergedInto", "(I)I"⟩
abbrev cX5_plausible : ByteArray := prog_7_method_37_code
def yX5_plausible : MethodName := ⟨RX5, "plausible", "(I)Z"⟩
abbrev cX5_isPlausible : ByteArray := prog_7_method_38_code
def yX5_isPlausible : MethodName := ⟨RX5, "isPlausible", "(I)Z"⟩
abbrev cX5_explains : ByteArray := prog_7_method_39_code
def yX5_explains : MethodName := ⟨RX5, "explains", "(I)I"⟩
abbrev cX5_explained : ByteArray := prog_7_method_40_code
def yX5_explained : MethodName := ⟨RX5, "explained", "(I)I"⟩
abbrev cX5_isBetter : ByteArray := prog_7_method_41_code
def yX5_isBetter : MethodName := ⟨RX5, "isBetter", "(II)Z"⟩
abbrev cX5_best : ByteArray := prog_7_method_42_code
def yX5_best : MethodName := ⟨RX5, "best", "()I"⟩
abbrev cX5_causes : ByteArray := prog_7_method_43_code
def yX5_causes : MethodName := ⟨RX5, "causes", "()I"⟩
abbrev cX5_cause : ByteArray := prog_7_method_44_code
def yX5_cause : MethodName := ⟨RX5, "cause", "(I)I"⟩
abbrev cX5_causeByTrying : ByteArray := prog_7_method_45_code
def yX5_causeByTrying : MethodName := ⟨RX5, "causeByTrying", "(I)I"⟩
abbrev cX5_joins : ByteArray := prog_7_method_46_code
def yX5_joins : MethodName := ⟨RX5, "joins", "(I)I"⟩
abbrev cX5_greedyCauses : ByteArray := prog_7_method_47_code
def yX5_greedyCauses : MethodName := ⟨RX5, "greedyCauses", "()I"⟩
abbrev cX5_greedyCause : ByteArray := prog_7_method_48_code
def yX5_greedyCause : MethodName := ⟨RX5, "greedyCause", "(I)I"⟩
abbrev cX5_causeOf : ByteArray := prog_7_method_49_code
def yX5_causeOf : MethodName := ⟨RX5, "causeOf", "(I)I"⟩
def RJ6 : String := "java/lang/Integer"
def TJ6 : u_T := fun k => match k with
  | _ => ("", "", "", false)
def tyJ6 : Nat → FieldType := fun k => match k with
  | _ => .int
abbrev wsJ60 : List Cond := u_ws RJ6 TJ6 0
theorem nmJ6 : ∀ a, a < 0 → ∀ b, b < 0 → a ≠ b → (TJ6 a).2.1 ≠ (TJ6 b).2.1 := by decide +kernel
theorem tyJ6_ok : ∀ k, k < 0 → parseFieldDescriptor (TJ6 k).2.2.1 = some (tyJ6 k) := by decide +kernel
abbrev cJ6_bitCount_0f7a4 : ByteArray := prog_12_method_49_code
def yJ6_bitCount_0f7a4 : MethodName := ⟨RJ6, "bitCount", "(I)I"⟩
def RJ9 : String := "java/lang/Math"
def TJ9 : u_T := fun k => match k with
  | _ => ("", "", "", false)
def tyJ9 : Nat → FieldType := fun k => match k with
  | _ => .int
abbrev wsJ90 : List Cond := u_ws RJ9 TJ9 0
theorem nmJ9 : ∀ a, a < 0 → ∀ b, b < 0 → a ≠ b → (TJ9 a).2.1 ≠ (TJ9 b).2.1 := by decide +kernel
theorem tyJ9_ok : ∀ k, k < 0 → parseFieldDescriptor (TJ9 k).2.2.1 = some (tyJ9 k) := by decide +kernel
abbrev cJ9_min_7cf53 : ByteArray := prog_13_method_69_code
def yJ9_min_7cf53 : MethodName := ⟨RJ9, "min", "(II)I"⟩
def RJ0 : String := "java/lang/String"
def TJ0 : u_T := fun k => match k with
  | _ => ("", "", "", false)
def tyJ0 : Nat → FieldType := fun k => match k with
  | _ => .int
abbrev wsJ00 : List Cond := u_ws RJ0 TJ0 0
theorem nmJ0 : ∀ a, a < 0 → ∀ b, b < 0 → a ≠ b → (TJ0 a).2.1 ≠ (TJ0 b).2.1 := by decide +kernel
theorem tyJ0_ok : ∀ k, k < 0 → parseFieldDescriptor (TJ0 k).2.2.1 = some (tyJ0 k) := by decide +kernel
def RL : String := "AlarmgroveLaw"
abbrev cL_need : ByteArray := method_3_code
def yL_need : MethodName := ⟨RL, "need", "(LAlarmgrove;II[J)I"⟩
abbrev cL_release : ByteArray := method_4_code
def yL_release : MethodName := ⟨RL, "release", "(LAlarmgrove;II[J)I"⟩
abbrev cL_needs : ByteArray := method_5_code
def yL_needs : MethodName := ⟨RL, "needs", "(LAlarmgrove;II[J)I"⟩
abbrev cL_dependsOn : ByteArray := method_6_code
def yL_dependsOn : MethodName := ⟨RL, "dependsOn", "(LAlarmgrove;II[J)I"⟩
abbrev cL_height : ByteArray := method_7_code
def yL_height : MethodName := ⟨RL, "height", "(LAlarmgrove;I[J)I"⟩
abbrev cL_tick : ByteArray := method_8_code
def yL_tick : MethodName := ⟨RL, "tick", "(LAlarmgrove;I[J)I"⟩
abbrev cL_raise : ByteArray := method_9_code
def yL_raise : MethodName := ⟨RL, "raise", "(LAlarmgrove;I[J)I"⟩
abbrev cL_clear : ByteArray := method_10_code
def yL_clear : MethodName := ⟨RL, "clear", "(LAlarmgrove;I[J)I"⟩
abbrev cL_state : ByteArray := method_11_code
def yL_state : MethodName := ⟨RL, "state", "(LAlarmgrove;I[J)I"⟩
abbrev cL_nodesThatAre : ByteArray := method_12_code
def yL_nodesThatAre : MethodName := ⟨RL, "nodesThatAre", "(LAlarmgrove;I[J)I"⟩
abbrev cL_raises : ByteArray := method_13_code
def yL_raises : MethodName := ⟨RL, "raises", "(LAlarmgrove;II[J)I"⟩
abbrev cL_eventKind : ByteArray := method_14_code
def yL_eventKind : MethodName := ⟨RL, "eventKind", "(LAlarmgrove;I[J)I"⟩
abbrev cL_eventNode : ByteArray := method_15_code
def yL_eventNode : MethodName := ⟨RL, "eventNode", "(LAlarmgrove;I[J)I"⟩
abbrev cL_eventTime : ByteArray := method_16_code
def yL_eventTime : MethodName := ⟨RL, "eventTime", "(LAlarmgrove;I[J)I"⟩
abbrev cL_eventLength : ByteArray := method_17_code
def yL_eventLength : MethodName := ⟨RL, "eventLength", "(LAlarmgrove;I[J)I"⟩
abbrev cL_ticketOf : ByteArray := method_18_code
def yL_ticketOf : MethodName := ⟨RL, "ticketOf", "(LAlarmgrove;I[J)I"⟩
abbrev cL_isPlausible : ByteArray := method_19_code
def yL_isPlausible : MethodName := ⟨RL, "isPlausible", "(LAlarmgrove;I[J)I"⟩
abbrev cL_cause : ByteArray := method_20_code
def yL_cause : MethodName := ⟨RL, "cause", "(LAlarmgrove;I[J)I"⟩
abbrev cL_causeByTrying : ByteArray := method_21_code
def yL_causeByTrying : MethodName := ⟨RL, "causeByTrying", "(LAlarmgrove;I[J)I"⟩
abbrev cL_greedyCause : ByteArray := method_22_code
def yL_greedyCause : MethodName := ⟨RL, "greedyCause", "(LAlarmgrove;I[J)I"⟩
abbrev cL_causeOf : ByteArray := method_23_code
def yL_causeOf : MethodName := ⟨RL, "causeOf", "(LAlarmgrove;I[J)I"⟩
abbrev cL_law : ByteArray := code
def yL_law : MethodName := ⟨RL, "law", "([I)Z"⟩
def wsX1_users : List Cond := .code yX1_users cX1_users 2 (some .int) :: ([.fieldLink RX1 15 "Alarmgrove$Graph" "users" "[I"] ++ wsX10)
def wsX4_only : List Cond := .code yX4_only cX4_only 1 (some .int) :: ([])
def wsX0_plausibleOf : List Cond := .code yX0_plausibleOf cX0_plausibleOf 5 (some .int) :: ([.methodLink RX0 65 yX1_users, .instanceMethod yX1_users, .selects RX1 yX1_users yX1_users, .initialized RX1, .code yX1_users cX1_users 2 (some .int), .fieldLink RX1 15 "Alarmgrove$Graph" "users" "[I", .static yX4_only, .initialized RX4, .code yX4_only cX4_only 1 (some .int)] ++ wsX10)
def wsX0_init : List Cond := .code yX0_init cX0_init 3 none :: ([.methodLink RX0 3 objectInit, .instanceMethod objectInit, .code objectInit ⟨#[0xb1]⟩ 1 none, .fieldLink RX0 9 "Alarmgrove$Diagnoser" "graph" "LAlarmgrove$Graph;", .fieldLink RX0 15 "Alarmgrove$Diagnoser" "raised" "I", .fieldLink RX0 23 "Alarmgrove$Diagnoser" "plausible" "I", .methodLink RX0 19 yX0_plausibleOf, .static yX0_plausibleOf, .initialized RX0, .code yX0_plausibleOf cX0_plausibleOf 5 (some .int), .methodLink RX0 65 yX1_users, .instanceMethod yX1_users, .selects RX1 yX1_users yX1_users, .initialized RX1, .code yX1_users cX1_users 2 (some .int), .fieldLink RX1 15 "Alarmgrove$Graph" "users" "[I", .static yX4_only, .initialized RX4, .code yX4_only cX4_only 1 (some .int)] ++ wsX00 ++ wsX10)
def wsX0_plausibleNodes : List Cond := .code yX0_plausibleNodes cX0_plausibleNodes 1 (some .int) :: ([.fieldLink RX0 23 "Alarmgrove$Diagnoser" "plausible" "I"] ++ wsX00)
def wsX4_has : List Cond := .code yX4_has cX4_has 2 (some .boolean) :: ([.methodLink RX4 82 yX4_only, .static yX4_only, .initialized RX4, .code yX4_only cX4_only 1 (some .int)])
def wsX4_nodeAtPlace : List Cond := .code yX4_nodeAtPlace cX4_nodeAtPlace 4 (some .int) :: ([.methodLink RX4 45 yX4_has, .static yX4_has, .initialized RX4, .code yX4_has cX4_has 2 (some .boolean), .methodLink RX4 82 yX4_only, .static yX4_only, .code yX4_only cX4_only 1 (some .int)])
def wsJ6_bitCount_0f7a4 : List Cond := .code yJ6_bitCount_0f7a4 cJ6_bitCount_0f7a4 1 (some .int) :: ([.constant RJ6 265 (1431655765), .constant RJ6 266 (858993459), .constant RJ6 267 (252645135)])
def wsX0_isBetter : List Cond := .code yX0_isBetter cX0_isBetter 8 (some .boolean) :: ([.fieldLink RX0 15 "Alarmgrove$Diagnoser" "raised" "I", .methodLink RX0 30 yJ6_bitCount_0f7a4, .static yJ6_bitCount_0f7a4, .initialized RJ6, .code yJ6_bitCount_0f7a4 cJ6_bitCount_0f7a4 1 (some .int), .constant RJ6 265 (1431655765), .constant RJ6 266 (858993459), .constant RJ6 267 (252645135), .static yX4_nodeAtPlace, .initialized RX4, .code yX4_nodeAtPlace cX4_nodeAtPlace 4 (some .int), .methodLink RX4 45 yX4_has, .static yX4_has, .code yX4_has cX4_has 2 (some .boolean), .methodLink RX4 82 yX4_only, .static yX4_only, .code yX4_only cX4_only 1 (some .int)] ++ wsX00)
def wsX1_explainersOf : List Cond := .code yX1_explainersOf cX1_explainersOf 2 (some .int) :: ([.fieldLink RX1 18 "Alarmgrove$Graph" "below" "[I", .static yX4_only, .initialized RX4, .code yX4_only cX4_only 1 (some .int)] ++ wsX10)
def wsX1_explainedBy : List Cond := .code yX1_explainedBy cX1_explainedBy 2 (some .int) :: ([.fieldLink RX1 21 "Alarmgrove$Graph" "above" "[I", .static yX4_only, .initialized RX4, .code yX4_only cX4_only 1 (some .int)] ++ wsX10)
def wsX0_search_r1 : List Cond := [Cond.fieldLink RX0 9 "Alarmgrove$Diagnoser" "graph" "LAlarmgrove$Graph;", Cond.static yX4_nodeAtPlace, Cond.initialized RX4, Cond.code yX4_nodeAtPlace cX4_nodeAtPlace 4 (some .int), Cond.methodLink RX4 45 yX4_has, Cond.static yX4_has, Cond.code yX4_has cX4_has 2 (some .boolean), Cond.methodLink RX4 82 yX4_only, Cond.static yX4_only, Cond.code yX4_only cX4_only 1 (some .int), Cond.methodLink RX0 36 yX0_isBetter, Cond.instanceMethod yX0_isBetter, Cond.selects RX0 yX0_isBetter yX0_isBetter, Cond.initialized RX0, Cond.code yX0_isBetter cX0_isBetter 8 (some .boolean), Cond.fieldLink RX0 15 "Alarmgrove$Diagnoser" "raised" "I", Cond.methodLink RX0 30 yJ6_bitCount_0f7a4, Cond.static yJ6_bitCount_0f7a4, Cond.initialized RJ6, Cond.code yJ6_bitCount_0f7a4 cJ6_bitCount_0f7a4 1 (some .int), Cond.constant RJ6 265 (1431655765), Cond.constant RJ6 266 (858993459), Cond.constant RJ6 267 (252645135), Cond.methodLink RX0 59 yX1_explainersOf]
def wsX0_search_r2 : List Cond := [Cond.instanceMethod yX1_explainersOf, Cond.selects RX1 yX1_explainersOf yX1_explainersOf, Cond.initialized RX1, Cond.code yX1_explainersOf cX1_explainersOf 2 (some .int), Cond.fieldLink RX1 18 "Alarmgrove$Graph" "below" "[I", Cond.methodLink RX0 47 yX1_explainedBy, Cond.instanceMethod yX1_explainedBy, Cond.selects RX1 yX1_explainedBy yX1_explainedBy, Cond.code yX1_explainedBy cX1_explainedBy 2 (some .int), Cond.fieldLink RX1 21 "Alarmgrove$Graph" "above" "[I", Cond.methodLink RX0 26 yX0_search, Cond.static yX0_search]
def wsX0_search : List Cond := .code yX0_search cX0_search 13 (some .int) :: ((wsX0_search_r1 ++ wsX0_search_r2) ++ wsX00 ++ wsX10)
def wsX0_bestBySearch_r1 : List Cond := [Cond.fieldLink RX0 15 "Alarmgrove$Diagnoser" "raised" "I", Cond.fieldLink RX0 23 "Alarmgrove$Diagnoser" "plausible" "I", Cond.methodLink RX0 26 yX0_search, Cond.static yX0_search, Cond.initialized RX0, Cond.code yX0_search cX0_search 13 (some .int), Cond.fieldLink RX0 9 "Alarmgrove$Diagnoser" "graph" "LAlarmgrove$Graph;", Cond.static yX4_nodeAtPlace, Cond.initialized RX4, Cond.code yX4_nodeAtPlace cX4_nodeAtPlace 4 (some .int), Cond.methodLink RX4 45 yX4_has, Cond.static yX4_has, Cond.code yX4_has cX4_has 2 (some .boolean), Cond.methodLink RX4 82 yX4_only, Cond.static yX4_only, Cond.code yX4_only cX4_only 1 (some .int), Cond.methodLink RX0 36 yX0_isBetter, Cond.instanceMethod yX0_isBetter, Cond.selects RX0 yX0_isBetter yX0_isBetter, Cond.code yX0_isBetter cX0_isBetter 8 (some .boolean), Cond.methodLink RX0 30 yJ6_bitCount_0f7a4, Cond.static yJ6_bitCount_0f7a4, Cond.initialized RJ6, Cond.code yJ6_bitCount_0f7a4 cJ6_bitCount_0f7a4 1 (some .int)]
def wsX0_bestBySearch_r2 : List Cond := [Cond.constant RJ6 265 (1431655765), Cond.constant RJ6 266 (858993459), Cond.constant RJ6 267 (252645135), Cond.methodLink RX0 59 yX1_explainersOf, Cond.instanceMethod yX1_explainersOf, Cond.selects RX1 yX1_explainersOf yX1_explainersOf, Cond.initialized RX1, Cond.code yX1_explainersOf cX1_explainersOf 2 (some .int), Cond.fieldLink RX1 18 "Alarmgrove$Graph" "below" "[I", Cond.methodLink RX0 47 yX1_explainedBy, Cond.instanceMethod yX1_explainedBy, Cond.selects RX1 yX1_explainedBy yX1_explainedBy, Cond.code yX1_explainedBy cX1_explainedBy 2 (some .int), Cond.fieldLink RX1 21 "Alarmgrove$Graph" "above" "[I"]
def wsX0_bestBySearch : List Cond := .code yX0_bestBySearch cX0_bestBySearch 1 (some .int) :: ((wsX0_bestBySearch_r1 ++ wsX0_bestBySearch_r2) ++ wsX00 ++ wsX10)
def wsX0_explainsAll : List Cond := .code yX0_explainsAll cX0_explainsAll 3 (some .boolean) :: ([.fieldLink RX0 15 "Alarmgrove$Diagnoser" "raised" "I", .fieldLink RX0 9 "Alarmgrove$Diagnoser" "graph" "LAlarmgrove$Graph;", .static yX4_has, .initialized RX4, .code yX4_has cX4_has 2 (some .boolean), .methodLink RX4 82 yX4_only, .static yX4_only, .code yX4_only cX4_only 1 (some .int), .methodLink RX0 59 yX1_explainersOf, .instanceMethod yX1_explainersOf, .selects RX1 yX1_explainersOf yX1_explainersOf, .initialized RX1, .code yX1_explainersOf cX1_explainersOf 2 (some .int), .fieldLink RX1 18 "Alarmgrove$Graph" "below" "[I"] ++ wsX00 ++ wsX10)
def wsX0_bestByTrying_r1 : List Cond := [Cond.fieldLink RX0 15 "Alarmgrove$Diagnoser" "raised" "I", Cond.fieldLink RX0 23 "Alarmgrove$Diagnoser" "plausible" "I", Cond.methodLink RX0 30 yJ6_bitCount_0f7a4, Cond.static yJ6_bitCount_0f7a4, Cond.initialized RJ6, Cond.code yJ6_bitCount_0f7a4 cJ6_bitCount_0f7a4 1 (some .int), Cond.constant RJ6 265 (1431655765), Cond.constant RJ6 266 (858993459), Cond.constant RJ6 267 (252645135), Cond.methodLink RX0 36 yX0_isBetter, Cond.instanceMethod yX0_isBetter, Cond.selects RX0 yX0_isBetter yX0_isBetter, Cond.initialized RX0, Cond.code yX0_isBetter cX0_isBetter 8 (some .boolean), Cond.static yX4_nodeAtPlace, Cond.initialized RX4, Cond.code yX4_nodeAtPlace cX4_nodeAtPlace 4 (some .int), Cond.methodLink RX4 45 yX4_has, Cond.static yX4_has, Cond.code yX4_has cX4_has 2 (some .boolean), Cond.methodLink RX4 82 yX4_only, Cond.static yX4_only, Cond.code yX4_only cX4_only 1 (some .int), Cond.methodLink RX0 40 yX0_explainsAll]
def wsX0_bestByTrying_r2 : List Cond := [Cond.instanceMethod yX0_explainsAll, Cond.selects RX0 yX0_explainsAll yX0_explainsAll, Cond.code yX0_explainsAll cX0_explainsAll 3 (some .boolean), Cond.fieldLink RX0 9 "Alarmgrove$Diagnoser" "graph" "LAlarmgrove$Graph;", Cond.methodLink RX0 59 yX1_explainersOf, Cond.instanceMethod yX1_explainersOf, Cond.selects RX1 yX1_explainersOf yX1_explainersOf, Cond.initialized RX1, Cond.code yX1_explainersOf cX1_explainersOf 2 (some .int), Cond.fieldLink RX1 18 "Alarmgrove$Graph" "below" "[I"]
def wsX0_bestByTrying : List Cond := .code yX0_bestByTrying cX0_bestByTrying 5 (some .int) :: ((wsX0_bestByTrying_r1 ++ wsX0_bestByTrying_r2) ++ wsX00 ++ wsX10)
def wsX0_greedyNext : List Cond := .code yX0_greedyNext cX0_greedyNext 7 (some .int) :: ([.fieldLink RX0 23 "Alarmgrove$Diagnoser" "plausible" "I", .fieldLink RX0 9 "Alarmgrove$Diagnoser" "graph" "LAlarmgrove$Graph;", .fieldLink RX0 15 "Alarmgrove$Diagnoser" "raised" "I", .static yX4_has, .initialized RX4, .code yX4_has cX4_has 2 (some .boolean), .methodLink RX4 82 yX4_only, .static yX4_only, .code yX4_only cX4_only 1 (some .int), .methodLink RX0 47 yX1_explainedBy, .instanceMethod yX1_explainedBy, .selects RX1 yX1_explainedBy yX1_explainedBy, .initialized RX1, .code yX1_explainedBy cX1_explainedBy 2 (some .int), .fieldLink RX1 21 "Alarmgrove$Graph" "above" "[I", .methodLink RX0 30 yJ6_bitCount_0f7a4, .static yJ6_bitCount_0f7a4, .initialized RJ6, .code yJ6_bitCount_0f7a4 cJ6_bitCount_0f7a4 1 (some .int), .constant RJ6 265 (1431655765), .constant RJ6 266 (858993459), .constant RJ6 267 (252645135)] ++ wsX00 ++ wsX10)
def wsX0_greedyCount_r1 : List Cond := [Cond.fieldLink RX0 15 "Alarmgrove$Diagnoser" "raised" "I", Cond.fieldLink RX0 9 "Alarmgrove$Diagnoser" "graph" "LAlarmgrove$Graph;", Cond.methodLink RX0 44 yX0_greedyNext, Cond.instanceMethod yX0_greedyNext, Cond.selects RX0 yX0_greedyNext yX0_greedyNext, Cond.initialized RX0, Cond.code yX0_greedyNext cX0_greedyNext 7 (some .int), Cond.fieldLink RX0 23 "Alarmgrove$Diagnoser" "plausible" "I", Cond.static yX4_has, Cond.initialized RX4, Cond.code yX4_has cX4_has 2 (some .boolean), Cond.methodLink RX4 82 yX4_only, Cond.static yX4_only, Cond.code yX4_only cX4_only 1 (some .int), Cond.methodLink RX0 47 yX1_explainedBy, Cond.instanceMethod yX1_explainedBy, Cond.selects RX1 yX1_explainedBy yX1_explainedBy, Cond.initialized RX1, Cond.code yX1_explainedBy cX1_explainedBy 2 (some .int), Cond.fieldLink RX1 21 "Alarmgrove$Graph" "above" "[I", Cond.methodLink RX0 30 yJ6_bitCount_0f7a4, Cond.static yJ6_bitCount_0f7a4, Cond.initialized RJ6, Cond.code yJ6_bitCount_0f7a4 cJ6_bitCount_0f7a4 1 (some .int)]
def wsX0_greedyCount_r2 : List Cond := [Cond.constant RJ6 265 (1431655765), Cond.constant RJ6 266 (858993459), Cond.constant RJ6 267 (252645135)]
def wsX0_greedyCount : List Cond := .code yX0_greedyCount cX0_greedyCount 3 (some .int) :: ((wsX0_greedyCount_r1 ++ wsX0_greedyCount_r2) ++ wsX00 ++ wsX10)
def wsX0_greedyAt_r1 : List Cond := [Cond.fieldLink RX0 15 "Alarmgrove$Diagnoser" "raised" "I", Cond.fieldLink RX0 9 "Alarmgrove$Diagnoser" "graph" "LAlarmgrove$Graph;", Cond.methodLink RX0 44 yX0_greedyNext, Cond.instanceMethod yX0_greedyNext, Cond.selects RX0 yX0_greedyNext yX0_greedyNext, Cond.initialized RX0, Cond.code yX0_greedyNext cX0_greedyNext 7 (some .int), Cond.fieldLink RX0 23 "Alarmgrove$Diagnoser" "plausible" "I", Cond.static yX4_has, Cond.initialized RX4, Cond.code yX4_has cX4_has 2 (some .boolean), Cond.methodLink RX4 82 yX4_only, Cond.static yX4_only, Cond.code yX4_only cX4_only 1 (some .int), Cond.methodLink RX0 47 yX1_explainedBy, Cond.instanceMethod yX1_explainedBy, Cond.selects RX1 yX1_explainedBy yX1_explainedBy, Cond.initialized RX1, Cond.code yX1_explainedBy cX1_explainedBy 2 (some .int), Cond.fieldLink RX1 21 "Alarmgrove$Graph" "above" "[I", Cond.methodLink RX0 30 yJ6_bitCount_0f7a4, Cond.static yJ6_bitCount_0f7a4, Cond.initialized RJ6, Cond.code yJ6_bitCount_0f7a4 cJ6_bitCount_0f7a4 1 (some .int)]
def wsX0_greedyAt_r2 : List Cond := [Cond.constant RJ6 265 (1431655765), Cond.constant RJ6 266 (858993459), Cond.constant RJ6 267 (252645135)]
def wsX0_greedyAt : List Cond := .code yX0_greedyAt cX0_greedyAt 5 (some .int) :: ((wsX0_greedyAt_r1 ++ wsX0_greedyAt_r2) ++ wsX00 ++ wsX10)
def wsX1_init : List Cond := .code yX1_init cX1_init 1 none :: ([.methodLink RX1 3 objectInit, .instanceMethod objectInit, .code objectInit ⟨#[0xb1]⟩ 1 none, .arrayClass .int, .fieldLink RX1 9 "Alarmgrove$Graph" "needed" "[I", .fieldLink RX1 15 "Alarmgrove$Graph" "users" "[I", .fieldLink RX1 18 "Alarmgrove$Graph" "below" "[I", .fieldLink RX1 21 "Alarmgrove$Graph" "above" "[I"] ++ wsX10)
def wsX1_needed : List Cond := .code yX1_needed cX1_needed 2 (some .int) :: ([.fieldLink RX1 9 "Alarmgrove$Graph" "needed" "[I"] ++ wsX10)
def wsX1_below : List Cond := .code yX1_below cX1_below 2 (some .int) :: ([.fieldLink RX1 18 "Alarmgrove$Graph" "below" "[I"] ++ wsX10)
def wsX1_above : List Cond := .code yX1_above cX1_above 2 (some .int) :: ([.fieldLink RX1 21 "Alarmgrove$Graph" "above" "[I"] ++ wsX10)
def wsX1_step : List Cond := .code yX1_step cX1_step 4 (some .int) :: ([.static yX4_has, .initialized RX4, .code yX4_has cX4_has 2 (some .boolean), .methodLink RX4 82 yX4_only, .static yX4_only, .code yX4_only cX4_only 1 (some .int)])
def wsX1_follow : List Cond := .code yX1_follow cX1_follow 5 (some .int) :: ([.static yX4_only, .initialized RX4, .code yX4_only cX4_only 1 (some .int), .methodLink RX1 35 yX1_step, .static yX1_step, .initialized RX1, .code yX1_step cX1_step 4 (some .int), .static yX4_has, .code yX4_has cX4_has 2 (some .boolean), .methodLink RX4 82 yX4_only])
def wsX1_followAll : List Cond := .code yX1_followAll cX1_followAll 2 none :: ([.fieldLink RX1 18 "Alarmgrove$Graph" "below" "[I", .fieldLink RX1 9 "Alarmgrove$Graph" "needed" "[I", .fieldLink RX1 21 "Alarmgrove$Graph" "above" "[I", .fieldLink RX1 15 "Alarmgrove$Graph" "users" "[I", .methodLink RX1 39 yX1_follow, .static yX1_follow, .initialized RX1, .code yX1_follow cX1_follow 5 (some .int), .static yX4_only, .initialized RX4, .code yX4_only cX4_only 1 (some .int), .methodLink RX1 35 yX1_step, .static yX1_step, .code yX1_step cX1_step 4 (some .int), .static yX4_has, .code yX4_has cX4_has 2 (some .boolean), .methodLink RX4 82 yX4_only] ++ wsX10)
def wsX1_link : List Cond := .code yX1_link cX1_link 3 (some .boolean) :: ([.fieldLink RX1 9 "Alarmgrove$Graph" "needed" "[I", .fieldLink RX1 15 "Alarmgrove$Graph" "users" "[I", .static yX4_has, .initialized RX4, .code yX4_has cX4_has 2 (some .boolean), .methodLink RX4 82 yX4_only, .static yX4_only, .code yX4_only cX4_only 1 (some .int), .methodLink RX1 32 yX1_followAll, .instanceMethod yX1_followAll, .selects RX1 yX1_followAll yX1_followAll, .initialized RX1, .code yX1_followAll cX1_followAll 2 none, .fieldLink RX1 18 "Alarmgrove$Graph" "below" "[I", .fieldLink RX1 21 "Alarmgrove$Graph" "above" "[I", .methodLink RX1 39 yX1_follow, .static yX1_follow, .code yX1_follow cX1_follow 5 (some .int), .methodLink RX1 35 yX1_step, .static yX1_step, .code yX1_step cX1_step 4 (some .int)] ++ wsX10)
def wsX1_unlink : List Cond := .code yX1_unlink cX1_unlink 3 (some .boolean) :: ([.fieldLink RX1 9 "Alarmgrove$Graph" "needed" "[I", .fieldLink RX1 15 "Alarmgrove$Graph" "users" "[I", .static yX4_has, .initialized RX4, .code yX4_has cX4_has 2 (some .boolean), .methodLink RX4 82 yX4_only, .static yX4_only, .code yX4_only cX4_only 1 (some .int), .methodLink RX1 32 yX1_followAll, .instanceMethod yX1_followAll, .selects RX1 yX1_followAll yX1_followAll, .initialized RX1, .code yX1_followAll cX1_followAll 2 none, .fieldLink RX1 18 "Alarmgrove$Graph" "below" "[I", .fieldLink RX1 21 "Alarmgrove$Graph" "above" "[I", .methodLink RX1 39 yX1_follow, .static yX1_follow, .code yX1_follow cX1_follow 5 (some .int), .methodLink RX1 35 yX1_step, .static yX1_step, .code yX1_step cX1_step 4 (some .int)] ++ wsX10)
def wsX1_longestWayDown : List Cond := .code yX1_longestWayDown cX1_longestWayDown 4 (some .int) :: ([.fieldLink RX1 9 "Alarmgrove$Graph" "needed" "[I", .static yX4_only, .initialized RX4, .code yX4_only cX4_only 1 (some .int), .methodLink RX1 35 yX1_step, .static yX1_step, .initialized RX1, .code yX1_step cX1_step 4 (some .int), .static yX4_has, .code yX4_has cX4_has 2 (some .boolean), .methodLink RX4 82 yX4_only] ++ wsX10)
def wsX2_init : List Cond := .code yX2_init cX2_init 1 none :: ([.methodLink RX2 3 objectInit, .instanceMethod objectInit, .code objectInit ⟨#[0xb1]⟩ 1 none, .arrayClass .int, .fieldLink RX2 9 "Alarmgrove$Log" "kinds" "[I", .fieldLink RX2 15 "Alarmgrove$Log" "nodes" "[I", .fieldLink RX2 18 "Alarmgrove$Log" "times" "[I", .fieldLink RX2 21 "Alarmgrove$Log" "lengths" "[I", .fieldLink RX2 24 "Alarmgrove$Log" "raisedAt" "[I", .fieldLink RX2 27 "Alarmgrove$Log" "count" "I"] ++ wsX20)
def wsX2_isFull : List Cond := .code yX2_isFull cX2_isFull 1 (some .boolean) :: ([.fieldLink RX2 27 "Alarmgrove$Log" "count" "I"] ++ wsX20)
def wsX2_count : List Cond := .code yX2_count cX2_count 1 (some .int) :: ([.fieldLink RX2 27 "Alarmgrove$Log" "count" "I"] ++ wsX20)
def wsX2_kindAt : List Cond := .code yX2_kindAt cX2_kindAt 2 (some .int) :: ([.fieldLink RX2 9 "Alarmgrove$Log" "kinds" "[I"] ++ wsX20)
def wsX2_nodeAt : List Cond := .code yX2_nodeAt cX2_nodeAt 2 (some .int) :: ([.fieldLink RX2 15 "Alarmgrove$Log" "nodes" "[I"] ++ wsX20)
def wsX2_timeAt : List Cond := .code yX2_timeAt cX2_timeAt 2 (some .int) :: ([.fieldLink RX2 18 "Alarmgrove$Log" "times" "[I"] ++ wsX20)
def wsX2_lengthAt : List Cond := .code yX2_lengthAt cX2_lengthAt 2 (some .int) :: ([.fieldLink RX2 21 "Alarmgrove$Log" "lengths" "[I"] ++ wsX20)
def wsX2_add : List Cond := .code yX2_add cX2_add 5 none :: ([.fieldLink RX2 9 "Alarmgrove$Log" "kinds" "[I", .fieldLink RX2 27 "Alarmgrove$Log" "count" "I", .fieldLink RX2 15 "Alarmgrove$Log" "nodes" "[I", .fieldLink RX2 18 "Alarmgrove$Log" "times" "[I", .fieldLink RX2 21 "Alarmgrove$Log" "lengths" "[I"] ++ wsX20)
def wsX2_addRaise : List Cond := .code yX2_addRaise cX2_addRaise 3 none :: ([.fieldLink RX2 24 "Alarmgrove$Log" "raisedAt" "[I", .methodLink RX2 31 yX2_add, .instanceMethod yX2_add, .selects RX2 yX2_add yX2_add, .initialized RX2, .code yX2_add cX2_add 5 none, .fieldLink RX2 9 "Alarmgrove$Log" "kinds" "[I", .fieldLink RX2 27 "Alarmgrove$Log" "count" "I", .fieldLink RX2 15 "Alarmgrove$Log" "nodes" "[I", .fieldLink RX2 18 "Alarmgrove$Log" "times" "[I", .fieldLink RX2 21 "Alarmgrove$Log" "lengths" "[I"] ++ wsX20)
def wsX2_addClear : List Cond := .code yX2_addClear cX2_addClear 3 none :: ([.fieldLink RX2 24 "Alarmgrove$Log" "raisedAt" "[I", .methodLink RX2 31 yX2_add, .instanceMethod yX2_add, .selects RX2 yX2_add yX2_add, .initialized RX2, .code yX2_add cX2_add 5 none, .fieldLink RX2 9 "Alarmgrove$Log" "kinds" "[I", .fieldLink RX2 27 "Alarmgrove$Log" "count" "I", .fieldLink RX2 15 "Alarmgrove$Log" "nodes" "[I", .fieldLink RX2 18 "Alarmgrove$Log" "times" "[I", .fieldLink RX2 21 "Alarmgrove$Log" "lengths" "[I"] ++ wsX20)
def wsX2_raisesAfter : List Cond := .code yX2_raisesAfter cX2_raisesAfter 5 (some .int) :: ([.fieldLink RX2 27 "Alarmgrove$Log" "count" "I", .fieldLink RX2 9 "Alarmgrove$Log" "kinds" "[I", .fieldLink RX2 15 "Alarmgrove$Log" "nodes" "[I", .fieldLink RX2 18 "Alarmgrove$Log" "times" "[I"] ++ wsX20)
def wsX3_init : List Cond := .code yX3_init cX3_init 2 none :: ([.methodLink RX3 3 objectInit, .instanceMethod objectInit, .code objectInit ⟨#[0xb1]⟩ 1 none, .arrayClass .int, .fieldLink RX3 9 "Alarmgrove$Tickets" "numbers" "[I", .fieldLink RX3 15 "Alarmgrove$Tickets" "sizes" "[I", .fieldLink RX3 18 "Alarmgrove$Tickets" "targets" "[I", .fieldLink RX3 21 "Alarmgrove$Tickets" "newest" "I"] ++ wsX30)
def wsX3_numberOf : List Cond := .code yX3_numberOf cX3_numberOf 2 (some .int) :: ([.fieldLink RX3 9 "Alarmgrove$Tickets" "numbers" "[I"] ++ wsX30)
def wsX3_isUsed : List Cond := .code yX3_isUsed cX3_isUsed 2 (some .boolean) :: ([.fieldLink RX3 21 "Alarmgrove$Tickets" "newest" "I"] ++ wsX30)
def wsX3_stateOf : List Cond := .code yX3_stateOf cX3_stateOf 2 (some .int) :: ([.fieldLink RX3 18 "Alarmgrove$Tickets" "targets" "[I", .fieldLink RX3 15 "Alarmgrove$Tickets" "sizes" "[I", .methodLink RX3 25 yX3_isUsed, .instanceMethod yX3_isUsed, .selects RX3 yX3_isUsed yX3_isUsed, .initialized RX3, .code yX3_isUsed cX3_isUsed 2 (some .boolean), .fieldLink RX3 21 "Alarmgrove$Tickets" "newest" "I"] ++ wsX30)
def wsX3_sizeOf : List Cond := .code yX3_sizeOf cX3_sizeOf 2 (some .int) :: ([.fieldLink RX3 15 "Alarmgrove$Tickets" "sizes" "[I", .methodLink RX3 25 yX3_isUsed, .instanceMethod yX3_isUsed, .selects RX3 yX3_isUsed yX3_isUsed, .initialized RX3, .code yX3_isUsed cX3_isUsed 2 (some .boolean), .fieldLink RX3 21 "Alarmgrove$Tickets" "newest" "I"] ++ wsX30)
def wsX3_targetOf : List Cond := .code yX3_targetOf cX3_targetOf 2 (some .int) :: ([.fieldLink RX3 18 "Alarmgrove$Tickets" "targets" "[I", .methodLink RX3 25 yX3_isUsed, .instanceMethod yX3_isUsed, .selects RX3 yX3_isUsed yX3_isUsed, .initialized RX3, .code yX3_isUsed cX3_isUsed 2 (some .boolean), .fieldLink RX3 21 "Alarmgrove$Tickets" "newest" "I"] ++ wsX30)
def wsX3_countOpen : List Cond := .code yX3_countOpen cX3_countOpen 3 (some .int) :: ([.fieldLink RX3 21 "Alarmgrove$Tickets" "newest" "I", .methodLink RX3 29 yX3_stateOf, .instanceMethod yX3_stateOf, .selects RX3 yX3_stateOf yX3_stateOf, .initialized RX3, .code yX3_stateOf cX3_stateOf 2 (some .int), .fieldLink RX3 18 "Alarmgrove$Tickets" "targets" "[I", .fieldLink RX3 15 "Alarmgrove$Tickets" "sizes" "[I", .methodLink RX3 25 yX3_isUsed, .instanceMethod yX3_isUsed, .selects RX3 yX3_isUsed yX3_isUsed, .code yX3_isUsed cX3_isUsed 2 (some .boolean)] ++ wsX30)
def wsX3_openNew : List Cond := .code yX3_openNew cX3_openNew 1 (some .int) :: ([.fieldLink RX3 21 "Alarmgrove$Tickets" "newest" "I", .fieldLink RX3 18 "Alarmgrove$Tickets" "targets" "[I"] ++ wsX30)
def wsX3_merge : List Cond := .code yX3_merge cX3_merge 4 none :: ([.fieldLink RX3 9 "Alarmgrove$Tickets" "numbers" "[I", .fieldLink RX3 15 "Alarmgrove$Tickets" "sizes" "[I", .fieldLink RX3 18 "Alarmgrove$Tickets" "targets" "[I"] ++ wsX30)
def wsX3_unite : List Cond := .code yX3_unite cX3_unite 4 (some .int) :: ([.fieldLink RX3 21 "Alarmgrove$Tickets" "newest" "I", .fieldLink RX3 9 "Alarmgrove$Tickets" "numbers" "[I", .methodLink RX3 44 Lib.Math.min.name, .static Lib.Math.min.name, .initialized "java/lang/Math", .code Lib.Math.min.name Lib.Math.min.code 2 (some .int), .static yX4_has, .initialized RX4, .code yX4_has cX4_has 2 (some .boolean), .methodLink RX4 82 yX4_only, .static yX4_only, .code yX4_only cX4_only 1 (some .int), .methodLink RX3 50 yX3_merge, .instanceMethod yX3_merge, .selects RX3 yX3_merge yX3_merge, .initialized RX3, .code yX3_merge cX3_merge 4 none, .fieldLink RX3 15 "Alarmgrove$Tickets" "sizes" "[I", .fieldLink RX3 18 "Alarmgrove$Tickets" "targets" "[I"] ++ wsX30)
def wsX3_join_r1 : List Cond := [Cond.fieldLink RX3 9 "Alarmgrove$Tickets" "numbers" "[I", Cond.fieldLink RX3 15 "Alarmgrove$Tickets" "sizes" "[I", Cond.methodLink RX3 33 yX3_openNew, Cond.instanceMethod yX3_openNew, Cond.selects RX3 yX3_openNew yX3_openNew, Cond.initialized RX3, Cond.code yX3_openNew cX3_openNew 1 (some .int), Cond.fieldLink RX3 21 "Alarmgrove$Tickets" "newest" "I", Cond.fieldLink RX3 18 "Alarmgrove$Tickets" "targets" "[I", Cond.methodLink RX3 37 yX3_unite, Cond.instanceMethod yX3_unite, Cond.selects RX3 yX3_unite yX3_unite, Cond.code yX3_unite cX3_unite 4 (some .int), Cond.methodLink RX3 44 Lib.Math.min.name, Cond.static Lib.Math.min.name, Cond.initialized "java/lang/Math", Cond.code Lib.Math.min.name Lib.Math.min.code 2 (some .int), Cond.static yX4_has, Cond.initialized RX4, Cond.code yX4_has cX4_has 2 (some .boolean), Cond.methodLink RX4 82 yX4_only, Cond.static yX4_only, Cond.code yX4_only cX4_only 1 (some .int), Cond.methodLink RX3 50 yX3_merge]
def wsX3_join_r2 : List Cond := [Cond.instanceMethod yX3_merge, Cond.selects RX3 yX3_merge yX3_merge, Cond.code yX3_merge cX3_merge 4 none]
def wsX3_join : List Cond := .code yX3_join cX3_join 4 (some .int) :: ((wsX3_join_r1 ++ wsX3_join_r2) ++ wsX30)
def wsX3_leave : List Cond := .code yX3_leave cX3_leave 3 (some .int) :: ([.fieldLink RX3 9 "Alarmgrove$Tickets" "numbers" "[I", .fieldLink RX3 15 "Alarmgrove$Tickets" "sizes" "[I"] ++ wsX30)
def wsX4_init_r1 : List Cond := [Cond.methodLink RX4 1 objectInit, Cond.instanceMethod objectInit, Cond.code objectInit ⟨#[0xb1]⟩ 1 none, Cond.classLink RX4 7 RX1, Cond.instantiable RX1 4, Cond.initialized RX1, Cond.fieldLink RX4 10 "Alarmgrove" "graph" "LAlarmgrove$Graph;", Cond.classLink RX4 16 RX2, Cond.instantiable RX2 6, Cond.initialized RX2, Cond.fieldLink RX4 19 "Alarmgrove" "log" "LAlarmgrove$Log;", Cond.classLink RX4 23 RX3, Cond.instantiable RX3 4, Cond.initialized RX3, Cond.fieldLink RX4 26 "Alarmgrove" "tickets" "LAlarmgrove$Tickets;", Cond.fieldLink RX4 30 "Alarmgrove" "raised" "I", Cond.fieldLink RX4 34 "Alarmgrove" "time" "I", Cond.instanceMethod yX1_init, Cond.code yX1_init cX1_init 1 none, Cond.methodLink RX1 3 objectInit, Cond.arrayClass .int, Cond.fieldLink RX1 9 "Alarmgrove$Graph" "needed" "[I", Cond.fieldLink RX1 15 "Alarmgrove$Graph" "users" "[I", Cond.fieldLink RX1 18 "Alarmgrove$Graph" "below" "[I"]
def wsX4_init_r2 : List Cond := [Cond.fieldLink RX1 21 "Alarmgrove$Graph" "above" "[I", Cond.instanceMethod yX2_init, Cond.code yX2_init cX2_init 1 none, Cond.methodLink RX2 3 objectInit, Cond.fieldLink RX2 9 "Alarmgrove$Log" "kinds" "[I", Cond.fieldLink RX2 15 "Alarmgrove$Log" "nodes" "[I", Cond.fieldLink RX2 18 "Alarmgrove$Log" "times" "[I", Cond.fieldLink RX2 21 "Alarmgrove$Log" "lengths" "[I", Cond.fieldLink RX2 24 "Alarmgrove$Log" "raisedAt" "[I", Cond.fieldLink RX2 27 "Alarmgrove$Log" "count" "I", Cond.methodLink RX4 25 yX3_init, Cond.instanceMethod yX3_init, Cond.code yX3_init cX3_init 2 none, Cond.methodLink RX3 3 objectInit, Cond.fieldLink RX3 9 "Alarmgrove$Tickets" "numbers" "[I", Cond.fieldLink RX3 15 "Alarmgrove$Tickets" "sizes" "[I", Cond.fieldLink RX3 18 "Alarmgrove$Tickets" "targets" "[I", Cond.fieldLink RX3 21 "Alarmgrove$Tickets" "newest" "I"]
def wsX4_init : List Cond := .code yX4_init cX4_init 1 none :: ((wsX4_init_r1 ++ wsX4_init_r2) ++ wsX10 ++ wsX40 ++ wsX20 ++ wsX30)
def wsX4_checkNode : List Cond := .code yX4_checkNode cX4_checkNode 1 none :: ([.classLink RX4 166 "java/lang/IndexOutOfBoundsException", .initialized "java/lang/IndexOutOfBoundsException"] ++ (vx_atS RX4 170 "java/lang/IndexOutOfBoundsException" ["java/lang/RuntimeException", "java/lang/Exception"]).filter goodWord)
def wsX4_need_r1 : List Cond := [Cond.classLink RX4 49 "java/lang/IllegalArgumentException", Cond.initialized "java/lang/IllegalArgumentException", Cond.fieldLink RX4 10 "Alarmgrove" "graph" "LAlarmgrove$Graph;", Cond.methodLink RX4 37 yX4_checkNode, Cond.static yX4_checkNode, Cond.initialized RX4, Cond.code yX4_checkNode cX4_checkNode 1 none, Cond.classLink RX4 166 "java/lang/IndexOutOfBoundsException", Cond.initialized "java/lang/IndexOutOfBoundsException", Cond.methodLink RX4 41 yX1_below, Cond.instanceMethod yX1_below, Cond.selects RX1 yX1_below yX1_below, Cond.initialized RX1, Cond.code yX1_below cX1_below 2 (some .int), Cond.fieldLink RX1 18 "Alarmgrove$Graph" "below" "[I", Cond.methodLink RX4 45 yX4_has, Cond.static yX4_has, Cond.code yX4_has cX4_has 2 (some .boolean), Cond.methodLink RX4 82 yX4_only, Cond.static yX4_only, Cond.code yX4_only cX4_only 1 (some .int), Cond.methodLink RX4 56 yX1_link, Cond.instanceMethod yX1_link, Cond.selects RX1 yX1_link yX1_link]
def wsX4_need_r2 : List Cond := [Cond.code yX1_link cX1_link 3 (some .boolean), Cond.fieldLink RX1 9 "Alarmgrove$Graph" "needed" "[I", Cond.fieldLink RX1 15 "Alarmgrove$Graph" "users" "[I", Cond.methodLink RX1 32 yX1_followAll, Cond.instanceMethod yX1_followAll, Cond.selects RX1 yX1_followAll yX1_followAll, Cond.code yX1_followAll cX1_followAll 2 none, Cond.fieldLink RX1 21 "Alarmgrove$Graph" "above" "[I", Cond.methodLink RX1 39 yX1_follow, Cond.static yX1_follow, Cond.code yX1_follow cX1_follow 5 (some .int), Cond.methodLink RX1 35 yX1_step, Cond.static yX1_step, Cond.code yX1_step cX1_step 4 (some .int)]
def wsX4_need : List Cond := .code yX4_need cX4_need 3 (some .boolean) :: ((wsX4_need_r1 ++ wsX4_need_r2) ++ wsX40 ++ wsX10 ++ (vx_atS RX4 53 "java/lang/IllegalArgumentException" ["java/lang/RuntimeException", "java/lang/Exception"]).filter goodWord ++ (vx_atS RX4 170 "java/lang/IndexOutOfBoundsException" ["java/lang/RuntimeException", "java/lang/Exception"]).filter goodWord)
def wsX4_release_r1 : List Cond := [Cond.fieldLink RX4 10 "Alarmgrove" "graph" "LAlarmgrove$Graph;", Cond.methodLink RX4 37 yX4_checkNode, Cond.static yX4_checkNode, Cond.initialized RX4, Cond.code yX4_checkNode cX4_checkNode 1 none, Cond.classLink RX4 166 "java/lang/IndexOutOfBoundsException", Cond.initialized "java/lang/IndexOutOfBoundsException", Cond.methodLink RX4 59 yX1_unlink, Cond.instanceMethod yX1_unlink, Cond.selects RX1 yX1_unlink yX1_unlink, Cond.initialized RX1, Cond.code yX1_unlink cX1_unlink 3 (some .boolean), Cond.fieldLink RX1 9 "Alarmgrove$Graph" "needed" "[I", Cond.fieldLink RX1 15 "Alarmgrove$Graph" "users" "[I", Cond.static yX4_has, Cond.code yX4_has cX4_has 2 (some .boolean), Cond.methodLink RX4 82 yX4_only, Cond.static yX4_only, Cond.code yX4_only cX4_only 1 (some .int), Cond.methodLink RX1 32 yX1_followAll, Cond.instanceMethod yX1_followAll, Cond.selects RX1 yX1_followAll yX1_followAll, Cond.code yX1_followAll cX1_followAll 2 none, Cond.fieldLink RX1 18 "Alarmgrove$Graph" "below" "[I"]
def wsX4_release_r2 : List Cond := [Cond.fieldLink RX1 21 "Alarmgrove$Graph" "above" "[I", Cond.methodLink RX1 39 yX1_follow, Cond.static yX1_follow, Cond.code yX1_follow cX1_follow 5 (some .int), Cond.methodLink RX1 35 yX1_step, Cond.static yX1_step, Cond.code yX1_step cX1_step 4 (some .int)]
def wsX4_release : List Cond := .code yX4_release cX4_release 3 (some .boolean) :: ((wsX4_release_r1 ++ wsX4_release_r2) ++ wsX40 ++ wsX10 ++ (vx_atS RX4 170 "java/lang/IndexOutOfBoundsException" ["java/lang/RuntimeException", "java/lang/Exception"]).filter goodWord)
def wsX4_needs : List Cond := .code yX4_needs cX4_needs 3 (some .boolean) :: ([.fieldLink RX4 10 "Alarmgrove" "graph" "LAlarmgrove$Graph;", .methodLink RX4 37 yX4_checkNode, .static yX4_checkNode, .initialized RX4, .code yX4_checkNode cX4_checkNode 1 none, .classLink RX4 166 "java/lang/IndexOutOfBoundsException", .initialized "java/lang/IndexOutOfBoundsException", .methodLink RX4 62 yX1_needed, .instanceMethod yX1_needed, .selects RX1 yX1_needed yX1_needed, .initialized RX1, .code yX1_needed cX1_needed 2 (some .int), .fieldLink RX1 9 "Alarmgrove$Graph" "needed" "[I", .methodLink RX4 45 yX4_has, .static yX4_has, .code yX4_has cX4_has 2 (some .boolean), .methodLink RX4 82 yX4_only, .static yX4_only, .code yX4_only cX4_only 1 (some .int)] ++ wsX40 ++ wsX10 ++ (vx_atS RX4 170 "java/lang/IndexOutOfBoundsException" ["java/lang/RuntimeException", "java/lang/Exception"]).filter goodWord)
def wsX4_dependsOn : List Cond := .code yX4_dependsOn cX4_dependsOn 3 (some .boolean) :: ([.fieldLink RX4 10 "Alarmgrove" "graph" "LAlarmgrove$Graph;", .methodLink RX4 37 yX4_checkNode, .static yX4_checkNode, .initialized RX4, .code yX4_checkNode cX4_checkNode 1 none, .classLink RX4 166 "java/lang/IndexOutOfBoundsException", .initialized "java/lang/IndexOutOfBoundsException", .methodLink RX4 41 yX1_below, .instanceMethod yX1_below, .selects RX1 yX1_below yX1_below, .initialized RX1, .code yX1_below cX1_below 2 (some .int), .fieldLink RX1 18 "Alarmgrove$Graph" "below" "[I", .methodLink RX4 45 yX4_has, .static yX4_has, .code yX4_has cX4_has 2 (some .boolean), .methodLink RX4 82 yX4_only, .static yX4_only, .code yX4_only cX4_only 1 (some .int)] ++ wsX40 ++ wsX10 ++ (vx_atS RX4 170 "java/lang/IndexOutOfBoundsException" ["java/lang/RuntimeException", "java/lang/Exception"]).filter goodWord)
def wsX4_height : List Cond := .code yX4_height cX4_height 2 (some .int) :: ([.fieldLink RX4 10 "Alarmgrove" "graph" "LAlarmgrove$Graph;", .methodLink RX4 37 yX4_checkNode, .static yX4_checkNode, .initialized RX4, .code yX4_checkNode cX4_checkNode 1 none, .classLink RX4 166 "java/lang/IndexOutOfBoundsException", .initialized "java/lang/IndexOutOfBoundsException", .methodLink RX4 65 yX1_longestWayDown, .instanceMethod yX1_longestWayDown, .selects RX1 yX1_longestWayDown yX1_longestWayDown, .initialized RX1, .code yX1_longestWayDown cX1_longestWayDown 4 (some .int), .fieldLink RX1 9 "Alarmgrove$Graph" "needed" "[I", .static yX4_only, .code yX4_only cX4_only 1 (some .int), .methodLink RX1 35 yX1_step, .static yX1_step, .code yX1_step cX1_step 4 (some .int), .static yX4_has, .code yX4_has cX4_has 2 (some .boolean), .methodLink RX4 82 yX4_only] ++ wsX40 ++ wsX10 ++ (vx_atS RX4 170 "java/lang/IndexOutOfBoundsException" ["java/lang/RuntimeException", "java/lang/Exception"]).filter goodWord)
def wsX4_checkTicks : List Cond := .code yX4_checkTicks cX4_checkTicks 2 none :: ([.classLink RX4 49 "java/lang/IllegalArgumentException", .initialized "java/lang/IllegalArgumentException"] ++ (vx_atS RX4 53 "java/lang/IllegalArgumentException" ["java/lang/RuntimeException", "java/lang/Exception"]).filter goodWord)
def wsX4_tick : List Cond := .code yX4_tick cX4_tick 2 (some .int) :: ([.fieldLink RX4 34 "Alarmgrove" "time" "I", .methodLink RX4 68 yX4_checkTicks, .static yX4_checkTicks, .initialized RX4, .code yX4_checkTicks cX4_checkTicks 2 none, .classLink RX4 49 "java/lang/IllegalArgumentException", .initialized "java/lang/IllegalArgumentException"] ++ wsX40 ++ (vx_atS RX4 53 "java/lang/IllegalArgumentException" ["java/lang/RuntimeException", "java/lang/Exception"]).filter goodWord)
def wsX4_now : List Cond := .code yX4_now cX4_now 1 (some .int) :: ([.fieldLink RX4 34 "Alarmgrove" "time" "I"] ++ wsX40)
def wsX4_checkChange : List Cond := .code yX4_checkChange cX4_checkChange 2 none :: ([.classLink RX4 188 "java/lang/IllegalStateException", .initialized "java/lang/IllegalStateException", .fieldLink RX4 19 "Alarmgrove" "log" "LAlarmgrove$Log;", .methodLink RX4 184 yX2_isFull, .instanceMethod yX2_isFull, .selects RX2 yX2_isFull yX2_isFull, .initialized RX2, .code yX2_isFull cX2_isFull 1 (some .boolean), .fieldLink RX2 27 "Alarmgrove$Log" "count" "I"] ++ wsX40 ++ wsX20 ++ (vx_atS RX4 192 "java/lang/IllegalStateException" ["java/lang/RuntimeException", "java/lang/Exception"]).filter goodWord)
def wsX4_raise_r1 : List Cond := [Cond.fieldLink RX4 30 "Alarmgrove" "raised" "I", Cond.fieldLink RX4 19 "Alarmgrove" "log" "LAlarmgrove$Log;", Cond.fieldLink RX4 34 "Alarmgrove" "time" "I", Cond.fieldLink RX4 10 "Alarmgrove" "graph" "LAlarmgrove$Graph;", Cond.fieldLink RX4 26 "Alarmgrove" "tickets" "LAlarmgrove$Tickets;", Cond.methodLink RX4 37 yX4_checkNode, Cond.static yX4_checkNode, Cond.initialized RX4, Cond.code yX4_checkNode cX4_checkNode 1 none, Cond.classLink RX4 166 "java/lang/IndexOutOfBoundsException", Cond.initialized "java/lang/IndexOutOfBoundsException", Cond.methodLink RX4 45 yX4_has, Cond.static yX4_has, Cond.code yX4_has cX4_has 2 (some .boolean), Cond.methodLink RX4 82 yX4_only, Cond.static yX4_only, Cond.code yX4_only cX4_only 1 (some .int), Cond.methodLink RX4 72 yX4_checkChange, Cond.instanceMethod yX4_checkChange, Cond.selects RX4 yX4_checkChange yX4_checkChange, Cond.code yX4_checkChange cX4_checkChange 2 none, Cond.classLink RX4 188 "java/lang/IllegalStateException", Cond.initialized "java/lang/IllegalStateException", Cond.methodLink RX4 184 yX2_isFull]
def wsX4_raise_r2 : List Cond := [Cond.instanceMethod yX2_isFull, Cond.selects RX2 yX2_isFull yX2_isFull, Cond.initialized RX2, Cond.code yX2_isFull cX2_isFull 1 (some .boolean), Cond.fieldLink RX2 27 "Alarmgrove$Log" "count" "I", Cond.methodLink RX4 76 yX2_addRaise, Cond.instanceMethod yX2_addRaise, Cond.selects RX2 yX2_addRaise yX2_addRaise, Cond.code yX2_addRaise cX2_addRaise 3 none, Cond.fieldLink RX2 24 "Alarmgrove$Log" "raisedAt" "[I", Cond.methodLink RX2 31 yX2_add, Cond.instanceMethod yX2_add, Cond.selects RX2 yX2_add yX2_add, Cond.code yX2_add cX2_add 5 none, Cond.fieldLink RX2 9 "Alarmgrove$Log" "kinds" "[I", Cond.fieldLink RX2 15 "Alarmgrove$Log" "nodes" "[I", Cond.fieldLink RX2 18 "Alarmgrove$Log" "times" "[I", Cond.fieldLink RX2 21 "Alarmgrove$Log" "lengths" "[I", Cond.methodLink RX4 41 yX1_below, Cond.instanceMethod yX1_below, Cond.selects RX1 yX1_below yX1_below, Cond.initialized RX1, Cond.code yX1_below cX1_below 2 (some .int), Cond.fieldLink RX1 18 "Alarmgrove$Graph" "below" "[I"]
def wsX4_raise_r3 : List Cond := [Cond.methodLink RX4 79 yX1_above, Cond.instanceMethod yX1_above, Cond.selects RX1 yX1_above yX1_above, Cond.code yX1_above cX1_above 2 (some .int), Cond.fieldLink RX1 21 "Alarmgrove$Graph" "above" "[I", Cond.methodLink RX4 85 yX3_join, Cond.instanceMethod yX3_join, Cond.selects RX3 yX3_join yX3_join, Cond.initialized RX3, Cond.code yX3_join cX3_join 4 (some .int), Cond.fieldLink RX3 9 "Alarmgrove$Tickets" "numbers" "[I", Cond.fieldLink RX3 15 "Alarmgrove$Tickets" "sizes" "[I", Cond.methodLink RX3 33 yX3_openNew, Cond.instanceMethod yX3_openNew, Cond.selects RX3 yX3_openNew yX3_openNew, Cond.code yX3_openNew cX3_openNew 1 (some .int), Cond.fieldLink RX3 21 "Alarmgrove$Tickets" "newest" "I", Cond.fieldLink RX3 18 "Alarmgrove$Tickets" "targets" "[I", Cond.methodLink RX3 37 yX3_unite, Cond.instanceMethod yX3_unite, Cond.selects RX3 yX3_unite yX3_unite, Cond.code yX3_unite cX3_unite 4 (some .int), Cond.methodLink RX3 44 Lib.Math.min.name, Cond.static Lib.Math.min.name]
def wsX4_raise_r4 : List Cond := [Cond.initialized "java/lang/Math", Cond.code Lib.Math.min.name Lib.Math.min.code 2 (some .int), Cond.methodLink RX3 50 yX3_merge, Cond.instanceMethod yX3_merge, Cond.selects RX3 yX3_merge yX3_merge, Cond.code yX3_merge cX3_merge 4 none]
def wsX4_raise : List Cond := .code yX4_raise cX4_raise 3 (some .int) :: ((wsX4_raise_r1 ++ (wsX4_raise_r2 ++ (wsX4_raise_r3 ++ wsX4_raise_r4))) ++ wsX40 ++ wsX20 ++ wsX10 ++ wsX30 ++ (vx_atS RX4 170 "java/lang/IndexOutOfBoundsException" ["java/lang/RuntimeException", "java/lang/Exception"]).filter goodWord ++ (vx_atS RX4 192 "java/lang/IllegalStateException" ["java/lang/RuntimeException", "java/lang/Exception"]).filter goodWord)
def wsX4_clear_r1 : List Cond := [Cond.fieldLink RX4 30 "Alarmgrove" "raised" "I", Cond.fieldLink RX4 19 "Alarmgrove" "log" "LAlarmgrove$Log;", Cond.fieldLink RX4 34 "Alarmgrove" "time" "I", Cond.fieldLink RX4 26 "Alarmgrove" "tickets" "LAlarmgrove$Tickets;", Cond.methodLink RX4 37 yX4_checkNode, Cond.static yX4_checkNode, Cond.initialized RX4, Cond.code yX4_checkNode cX4_checkNode 1 none, Cond.classLink RX4 166 "java/lang/IndexOutOfBoundsException", Cond.initialized "java/lang/IndexOutOfBoundsException", Cond.methodLink RX4 45 yX4_has, Cond.static yX4_has, Cond.code yX4_has cX4_has 2 (some .boolean), Cond.methodLink RX4 82 yX4_only, Cond.static yX4_only, Cond.code yX4_only cX4_only 1 (some .int), Cond.methodLink RX4 72 yX4_checkChange, Cond.instanceMethod yX4_checkChange, Cond.selects RX4 yX4_checkChange yX4_checkChange, Cond.code yX4_checkChange cX4_checkChange 2 none, Cond.classLink RX4 188 "java/lang/IllegalStateException", Cond.initialized "java/lang/IllegalStateException", Cond.methodLink RX4 184 yX2_isFull, Cond.instanceMethod yX2_isFull]
def wsX4_clear_r2 : List Cond := [Cond.selects RX2 yX2_isFull yX2_isFull, Cond.initialized RX2, Cond.code yX2_isFull cX2_isFull 1 (some .boolean), Cond.fieldLink RX2 27 "Alarmgrove$Log" "count" "I", Cond.methodLink RX4 89 yX2_addClear, Cond.instanceMethod yX2_addClear, Cond.selects RX2 yX2_addClear yX2_addClear, Cond.code yX2_addClear cX2_addClear 3 none, Cond.fieldLink RX2 24 "Alarmgrove$Log" "raisedAt" "[I", Cond.methodLink RX2 31 yX2_add, Cond.instanceMethod yX2_add, Cond.selects RX2 yX2_add yX2_add, Cond.code yX2_add cX2_add 5 none, Cond.fieldLink RX2 9 "Alarmgrove$Log" "kinds" "[I", Cond.fieldLink RX2 15 "Alarmgrove$Log" "nodes" "[I", Cond.fieldLink RX2 18 "Alarmgrove$Log" "times" "[I", Cond.fieldLink RX2 21 "Alarmgrove$Log" "lengths" "[I", Cond.methodLink RX4 92 yX3_leave, Cond.instanceMethod yX3_leave, Cond.selects RX3 yX3_leave yX3_leave, Cond.initialized RX3, Cond.code yX3_leave cX3_leave 3 (some .int), Cond.fieldLink RX3 9 "Alarmgrove$Tickets" "numbers" "[I", Cond.fieldLink RX3 15 "Alarmgrove$Tickets" "sizes" "[I"]
def wsX4_clear : List Cond := .code yX4_clear cX4_clear 2 (some .int) :: ((wsX4_clear_r1 ++ wsX4_clear_r2) ++ wsX40 ++ wsX20 ++ wsX30 ++ (vx_atS RX4 170 "java/lang/IndexOutOfBoundsException" ["java/lang/RuntimeException", "java/lang/Exception"]).filter goodWord ++ (vx_atS RX4 192 "java/lang/IllegalStateException" ["java/lang/RuntimeException", "java/lang/Exception"]).filter goodWord)
def wsX4_stateNow_r1 : List Cond := [Cond.fieldLink RX4 30 "Alarmgrove" "raised" "I", Cond.fieldLink RX4 19 "Alarmgrove" "log" "LAlarmgrove$Log;", Cond.fieldLink RX4 34 "Alarmgrove" "time" "I", Cond.fieldLink RX4 10 "Alarmgrove" "graph" "LAlarmgrove$Graph;", Cond.methodLink RX4 45 yX4_has, Cond.static yX4_has, Cond.initialized RX4, Cond.code yX4_has cX4_has 2 (some .boolean), Cond.methodLink RX4 82 yX4_only, Cond.static yX4_only, Cond.code yX4_only cX4_only 1 (some .int), Cond.methodLink RX4 100 yX2_raisesAfter, Cond.instanceMethod yX2_raisesAfter, Cond.selects RX2 yX2_raisesAfter yX2_raisesAfter, Cond.initialized RX2, Cond.code yX2_raisesAfter cX2_raisesAfter 5 (some .int), Cond.fieldLink RX2 27 "Alarmgrove$Log" "count" "I", Cond.fieldLink RX2 9 "Alarmgrove$Log" "kinds" "[I", Cond.fieldLink RX2 15 "Alarmgrove$Log" "nodes" "[I", Cond.fieldLink RX2 18 "Alarmgrove$Log" "times" "[I", Cond.methodLink RX4 41 yX1_below, Cond.instanceMethod yX1_below, Cond.selects RX1 yX1_below yX1_below, Cond.initialized RX1]
def wsX4_stateNow_r2 : List Cond := [Cond.code yX1_below cX1_below 2 (some .int), Cond.fieldLink RX1 18 "Alarmgrove$Graph" "below" "[I"]
def wsX4_stateNow : List Cond := .code yX4_stateNow cX4_stateNow 2 (some .int) :: ((wsX4_stateNow_r1 ++ wsX4_stateNow_r2) ++ wsX40 ++ wsX20 ++ wsX10)
def wsX4_state_r1 : List Cond := [Cond.methodLink RX4 37 yX4_checkNode, Cond.static yX4_checkNode, Cond.initialized RX4, Cond.code yX4_checkNode cX4_checkNode 1 none, Cond.classLink RX4 166 "java/lang/IndexOutOfBoundsException", Cond.initialized "java/lang/IndexOutOfBoundsException", Cond.methodLink RX4 95 yX4_stateNow, Cond.instanceMethod yX4_stateNow, Cond.selects RX4 yX4_stateNow yX4_stateNow, Cond.code yX4_stateNow cX4_stateNow 2 (some .int), Cond.fieldLink RX4 30 "Alarmgrove" "raised" "I", Cond.fieldLink RX4 19 "Alarmgrove" "log" "LAlarmgrove$Log;", Cond.fieldLink RX4 34 "Alarmgrove" "time" "I", Cond.fieldLink RX4 10 "Alarmgrove" "graph" "LAlarmgrove$Graph;", Cond.methodLink RX4 45 yX4_has, Cond.static yX4_has, Cond.code yX4_has cX4_has 2 (some .boolean), Cond.methodLink RX4 82 yX4_only, Cond.static yX4_only, Cond.code yX4_only cX4_only 1 (some .int), Cond.methodLink RX4 100 yX2_raisesAfter, Cond.instanceMethod yX2_raisesAfter, Cond.selects RX2 yX2_raisesAfter yX2_raisesAfter, Cond.initialized RX2]
def wsX4_state_r2 : List Cond := [Cond.code yX2_raisesAfter cX2_raisesAfter 5 (some .int), Cond.fieldLink RX2 27 "Alarmgrove$Log" "count" "I", Cond.fieldLink RX2 9 "Alarmgrove$Log" "kinds" "[I", Cond.fieldLink RX2 15 "Alarmgrove$Log" "nodes" "[I", Cond.fieldLink RX2 18 "Alarmgrove$Log" "times" "[I", Cond.methodLink RX4 41 yX1_below, Cond.instanceMethod yX1_below, Cond.selects RX1 yX1_below yX1_below, Cond.initialized RX1, Cond.code yX1_below cX1_below 2 (some .int), Cond.fieldLink RX1 18 "Alarmgrove$Graph" "below" "[I"]
def wsX4_state : List Cond := .code yX4_state cX4_state 2 (some .int) :: ((wsX4_state_r1 ++ wsX4_state_r2) ++ wsX40 ++ wsX20 ++ wsX10 ++ (vx_atS RX4 170 "java/lang/IndexOutOfBoundsException" ["java/lang/RuntimeException", "java/lang/Exception"]).filter goodWord)
def wsX4_nodesThatAre_r1 : List Cond := [Cond.classLink RX4 49 "java/lang/IllegalArgumentException", Cond.initialized "java/lang/IllegalArgumentException", Cond.methodLink RX4 95 yX4_stateNow, Cond.instanceMethod yX4_stateNow, Cond.selects RX4 yX4_stateNow yX4_stateNow, Cond.initialized RX4, Cond.code yX4_stateNow cX4_stateNow 2 (some .int), Cond.fieldLink RX4 30 "Alarmgrove" "raised" "I", Cond.fieldLink RX4 19 "Alarmgrove" "log" "LAlarmgrove$Log;", Cond.fieldLink RX4 34 "Alarmgrove" "time" "I", Cond.fieldLink RX4 10 "Alarmgrove" "graph" "LAlarmgrove$Graph;", Cond.methodLink RX4 45 yX4_has, Cond.static yX4_has, Cond.code yX4_has cX4_has 2 (some .boolean), Cond.methodLink RX4 82 yX4_only, Cond.static yX4_only, Cond.code yX4_only cX4_only 1 (some .int), Cond.methodLink RX4 100 yX2_raisesAfter, Cond.instanceMethod yX2_raisesAfter, Cond.selects RX2 yX2_raisesAfter yX2_raisesAfter, Cond.initialized RX2, Cond.code yX2_raisesAfter cX2_raisesAfter 5 (some .int), Cond.fieldLink RX2 27 "Alarmgrove$Log" "count" "I", Cond.fieldLink RX2 9 "Alarmgrove$Log" "kinds" "[I"]
def wsX4_nodesThatAre_r2 : List Cond := [Cond.fieldLink RX2 15 "Alarmgrove$Log" "nodes" "[I", Cond.fieldLink RX2 18 "Alarmgrove$Log" "times" "[I", Cond.methodLink RX4 41 yX1_below, Cond.instanceMethod yX1_below, Cond.selects RX1 yX1_below yX1_below, Cond.initialized RX1, Cond.code yX1_below cX1_below 2 (some .int), Cond.fieldLink RX1 18 "Alarmgrove$Graph" "below" "[I"]
def wsX4_nodesThatAre : List Cond := .code yX4_nodesThatAre cX4_nodesThatAre 4 (some .int) :: ((wsX4_nodesThatAre_r1 ++ wsX4_nodesThatAre_r2) ++ wsX40 ++ wsX20 ++ wsX10 ++ (vx_atS RX4 53 "java/lang/IllegalArgumentException" ["java/lang/RuntimeException", "java/lang/Exception"]).filter goodWord)
def wsX4_raises : List Cond := .code yX4_raises cX4_raises 3 (some .int) :: ([.fieldLink RX4 19 "Alarmgrove" "log" "LAlarmgrove$Log;", .fieldLink RX4 34 "Alarmgrove" "time" "I", .methodLink RX4 37 yX4_checkNode, .static yX4_checkNode, .initialized RX4, .code yX4_checkNode cX4_checkNode 1 none, .classLink RX4 166 "java/lang/IndexOutOfBoundsException", .initialized "java/lang/IndexOutOfBoundsException", .methodLink RX4 68 yX4_checkTicks, .static yX4_checkTicks, .code yX4_checkTicks cX4_checkTicks 2 none, .classLink RX4 49 "java/lang/IllegalArgumentException", .initialized "java/lang/IllegalArgumentException", .methodLink RX4 100 yX2_raisesAfter, .instanceMethod yX2_raisesAfter, .selects RX2 yX2_raisesAfter yX2_raisesAfter, .initialized RX2, .code yX2_raisesAfter cX2_raisesAfter 5 (some .int), .fieldLink RX2 27 "Alarmgrove$Log" "count" "I", .fieldLink RX2 9 "Alarmgrove$Log" "kinds" "[I", .fieldLink RX2 15 "Alarmgrove$Log" "nodes" "[I", .fieldLink RX2 18 "Alarmgrove$Log" "times" "[I"] ++ wsX40 ++ wsX20 ++ (vx_atS RX4 170 "java/lang/IndexOutOfBoundsException" ["java/lang/RuntimeException", "java/lang/Exception"]).filter goodWord ++ (vx_atS RX4 53 "java/lang/IllegalArgumentException" ["java/lang/RuntimeException", "java/lang/Exception"]).filter goodWord)
def wsX4_events : List Cond := .code yX4_events cX4_events 1 (some .int) :: ([.fieldLink RX4 19 "Alarmgrove" "log" "LAlarmgrove$Log;", .methodLink RX4 103 yX2_count, .instanceMethod yX2_count, .selects RX2 yX2_count yX2_count, .initialized RX2, .code yX2_count cX2_count 1 (some .int), .fieldLink RX2 27 "Alarmgrove$Log" "count" "I"] ++ wsX40 ++ wsX20)
def wsX4_checkEvent : List Cond := .code yX4_checkEvent cX4_checkEvent 2 none :: ([.classLink RX4 166 "java/lang/IndexOutOfBoundsException", .initialized "java/lang/IndexOutOfBoundsException", .fieldLink RX4 19 "Alarmgrove" "log" "LAlarmgrove$Log;", .methodLink RX4 103 yX2_count, .instanceMethod yX2_count, .selects RX2 yX2_count yX2_count, .initialized RX2, .code yX2_count cX2_count 1 (some .int), .fieldLink RX2 27 "Alarmgrove$Log" "count" "I"] ++ wsX40 ++ wsX20 ++ (vx_atS RX4 170 "java/lang/IndexOutOfBoundsException" ["java/lang/RuntimeException", "java/lang/Exception"]).filter goodWord)
def wsX4_eventKind : List Cond := .code yX4_eventKind cX4_eventKind 2 (some .int) :: ([.fieldLink RX4 19 "Alarmgrove" "log" "LAlarmgrove$Log;", .methodLink RX4 107 yX4_checkEvent, .instanceMethod yX4_checkEvent, .selects RX4 yX4_checkEvent yX4_checkEvent, .initialized RX4, .code yX4_checkEvent cX4_checkEvent 2 none, .classLink RX4 166 "java/lang/IndexOutOfBoundsException", .initialized "java/lang/IndexOutOfBoundsException", .methodLink RX4 103 yX2_count, .instanceMethod yX2_count, .selects RX2 yX2_count yX2_count, .initialized RX2, .code yX2_count cX2_count 1 (some .int), .fieldLink RX2 27 "Alarmgrove$Log" "count" "I", .methodLink RX4 110 yX2_kindAt, .instanceMethod yX2_kindAt, .selects RX2 yX2_kindAt yX2_kindAt, .code yX2_kindAt cX2_kindAt 2 (some .int), .fieldLink RX2 9 "Alarmgrove$Log" "kinds" "[I"] ++ wsX40 ++ wsX20 ++ (vx_atS RX4 170 "java/lang/IndexOutOfBoundsException" ["java/lang/RuntimeException", "java/lang/Exception"]).filter goodWord)
def wsX4_eventNode : List Cond := .code yX4_eventNode cX4_eventNode 2 (some .int) :: ([.fieldLink RX4 19 "Alarmgrove" "log" "LAlarmgrove$Log;", .methodLink RX4 107 yX4_checkEvent, .instanceMethod yX4_checkEvent, .selects RX4 yX4_checkEvent yX4_checkEvent, .initialized RX4, .code yX4_checkEvent cX4_checkEvent 2 none, .classLink RX4 166 "java/lang/IndexOutOfBoundsException", .initialized "java/lang/IndexOutOfBoundsException", .methodLink RX4 103 yX2_count, .instanceMethod yX2_count, .selects RX2 yX2_count yX2_count, .initialized RX2, .code yX2_count cX2_count 1 (some .int), .fieldLink RX2 27 "Alarmgrove$Log" "count" "I", .methodLink RX4 113 yX2_nodeAt, .instanceMethod yX2_nodeAt, .selects RX2 yX2_nodeAt yX2_nodeAt, .code yX2_nodeAt cX2_nodeAt 2 (some .int), .fieldLink RX2 15 "Alarmgrove$Log" "nodes" "[I"] ++ wsX40 ++ wsX20 ++ (vx_atS RX4 170 "java/lang/IndexOutOfBoundsException" ["java/lang/RuntimeException", "java/lang/Exception"]).filter goodWord)
def wsX4_eventTime : List Cond := .code yX4_eventTime cX4_eventTime 2 (some .int) :: ([.fieldLink RX4 19 "Alarmgrove" "log" "LAlarmgrove$Log;", .methodLink RX4 107 yX4_checkEvent, .instanceMethod yX4_checkEvent, .selects RX4 yX4_checkEvent yX4_checkEvent, .initialized RX4, .code yX4_checkEvent cX4_checkEvent 2 none, .classLink RX4 166 "java/lang/IndexOutOfBoundsException", .initialized "java/lang/IndexOutOfBoundsException", .methodLink RX4 103 yX2_count, .instanceMethod yX2_count, .selects RX2 yX2_count yX2_count, .initialized RX2, .code yX2_count cX2_count 1 (some .int), .fieldLink RX2 27 "Alarmgrove$Log" "count" "I", .methodLink RX4 116 yX2_timeAt, .instanceMethod yX2_timeAt, .selects RX2 yX2_timeAt yX2_timeAt, .code yX2_timeAt cX2_timeAt 2 (some .int), .fieldLink RX2 18 "Alarmgrove$Log" "times" "[I"] ++ wsX40 ++ wsX20 ++ (vx_atS RX4 170 "java/lang/IndexOutOfBoundsException" ["java/lang/RuntimeException", "java/lang/Exception"]).filter goodWord)
def wsX4_eventLength : List Cond := .code yX4_eventLength cX4_eventLength 2 (some .int) :: ([.fieldLink RX4 19 "Alarmgrove" "log" "LAlarmgrove$Log;", .methodLink RX4 107 yX4_checkEvent, .instanceMethod yX4_checkEvent, .selects RX4 yX4_checkEvent yX4_checkEvent, .initialized RX4, .code yX4_checkEvent cX4_checkEvent 2 none, .classLink RX4 166 "java/lang/IndexOutOfBoundsException", .initialized "java/lang/IndexOutOfBoundsException", .methodLink RX4 103 yX2_count, .instanceMethod yX2_count, .selects RX2 yX2_count yX2_count, .initialized RX2, .code yX2_count cX2_count 1 (some .int), .fieldLink RX2 27 "Alarmgrove$Log" "count" "I", .methodLink RX4 119 yX2_lengthAt, .instanceMethod yX2_lengthAt, .selects RX2 yX2_lengthAt yX2_lengthAt, .code yX2_lengthAt cX2_lengthAt 2 (some .int), .fieldLink RX2 21 "Alarmgrove$Log" "lengths" "[I"] ++ wsX40 ++ wsX20 ++ (vx_atS RX4 170 "java/lang/IndexOutOfBoundsException" ["java/lang/RuntimeException", "java/lang/Exception"]).filter goodWord)
def wsX4_openTickets : List Cond := .code yX4_openTickets cX4_openTickets 1 (some .int) :: ([.fieldLink RX4 26 "Alarmgrove" "tickets" "LAlarmgrove$Tickets;", .methodLink RX4 122 yX3_countOpen, .instanceMethod yX3_countOpen, .selects RX3 yX3_countOpen yX3_countOpen, .initialized RX3, .code yX3_countOpen cX3_countOpen 3 (some .int), .fieldLink RX3 21 "Alarmgrove$Tickets" "newest" "I", .methodLink RX3 29 yX3_stateOf, .instanceMethod yX3_stateOf, .selects RX3 yX3_stateOf yX3_stateOf, .code yX3_stateOf cX3_stateOf 2 (some .int), .fieldLink RX3 18 "Alarmgrove$Tickets" "targets" "[I", .fieldLink RX3 15 "Alarmgrove$Tickets" "sizes" "[I", .methodLink RX3 25 yX3_isUsed, .instanceMethod yX3_isUsed, .selects RX3 yX3_isUsed yX3_isUsed, .code yX3_isUsed cX3_isUsed 2 (some .boolean)] ++ wsX40 ++ wsX30)
def wsX4_ticketOf : List Cond := .code yX4_ticketOf cX4_ticketOf 2 (some .int) :: ([.fieldLink RX4 26 "Alarmgrove" "tickets" "LAlarmgrove$Tickets;", .methodLink RX4 37 yX4_checkNode, .static yX4_checkNode, .initialized RX4, .code yX4_checkNode cX4_checkNode 1 none, .classLink RX4 166 "java/lang/IndexOutOfBoundsException", .initialized "java/lang/IndexOutOfBoundsException", .methodLink RX4 125 yX3_numberOf, .instanceMethod yX3_numberOf, .selects RX3 yX3_numberOf yX3_numberOf, .initialized RX3, .code yX3_numberOf cX3_numberOf 2 (some .int), .fieldLink RX3 9 "Alarmgrove$Tickets" "numbers" "[I"] ++ wsX40 ++ wsX30 ++ (vx_atS RX4 170 "java/lang/IndexOutOfBoundsException" ["java/lang/RuntimeException", "java/lang/Exception"]).filter goodWord)
def wsX4_ticketState : List Cond := .code yX4_ticketState cX4_ticketState 2 (some .int) :: ([.fieldLink RX4 26 "Alarmgrove" "tickets" "LAlarmgrove$Tickets;", .methodLink RX4 128 yX3_stateOf, .instanceMethod yX3_stateOf, .selects RX3 yX3_stateOf yX3_stateOf, .initialized RX3, .code yX3_stateOf cX3_stateOf 2 (some .int), .fieldLink RX3 18 "Alarmgrove$Tickets" "targets" "[I", .fieldLink RX3 15 "Alarmgrove$Tickets" "sizes" "[I", .methodLink RX3 25 yX3_isUsed, .instanceMethod yX3_isUsed, .selects RX3 yX3_isUsed yX3_isUsed, .code yX3_isUsed cX3_isUsed 2 (some .boolean), .fieldLink RX3 21 "Alarmgrove$Tickets" "newest" "I"] ++ wsX40 ++ wsX30)
def wsX4_ticketSize : List Cond := .code yX4_ticketSize cX4_ticketSize 2 (some .int) :: ([.fieldLink RX4 26 "Alarmgrove" "tickets" "LAlarmgrove$Tickets;", .methodLink RX4 131 yX3_sizeOf, .instanceMethod yX3_sizeOf, .selects RX3 yX3_sizeOf yX3_sizeOf, .initialized RX3, .code yX3_sizeOf cX3_sizeOf 2 (some .int), .fieldLink RX3 15 "Alarmgrove$Tickets" "sizes" "[I", .methodLink RX3 25 yX3_isUsed, .instanceMethod yX3_isUsed, .selects RX3 yX3_isUsed yX3_isUsed, .code yX3_isUsed cX3_isUsed 2 (some .boolean), .fieldLink RX3 21 "Alarmgrove$Tickets" "newest" "I"] ++ wsX40 ++ wsX30)
def wsX4_mergedInto : List Cond := .code yX4_mergedInto cX4_mergedInto 2 (some .int) :: ([.fieldLink RX4 26 "Alarmgrove" "tickets" "LAlarmgrove$Tickets;", .methodLink RX4 134 yX3_targetOf, .instanceMethod yX3_targetOf, .selects RX3 yX3_targetOf yX3_targetOf, .initialized RX3, .code yX3_targetOf cX3_targetOf 2 (some .int), .fieldLink RX3 18 "Alarmgrove$Tickets" "targets" "[I", .methodLink RX3 25 yX3_isUsed, .instanceMethod yX3_isUsed, .selects RX3 yX3_isUsed yX3_isUsed, .code yX3_isUsed cX3_isUsed 2 (some .boolean), .fieldLink RX3 21 "Alarmgrove$Tickets" "newest" "I"] ++ wsX40 ++ wsX30)
def wsX4_diagnoser_r1 : List Cond := [Cond.classLink RX4 142 RX0, Cond.instantiable RX0 3, Cond.initialized RX0, Cond.fieldLink RX4 10 "Alarmgrove" "graph" "LAlarmgrove$Graph;", Cond.fieldLink RX4 30 "Alarmgrove" "raised" "I", Cond.methodLink RX4 177 yX0_init, Cond.instanceMethod yX0_init, Cond.code yX0_init cX0_init 3 none, Cond.methodLink RX0 3 objectInit, Cond.instanceMethod objectInit, Cond.code objectInit ⟨#[0xb1]⟩ 1 none, Cond.fieldLink RX0 9 "Alarmgrove$Diagnoser" "graph" "LAlarmgrove$Graph;", Cond.fieldLink RX0 15 "Alarmgrove$Diagnoser" "raised" "I", Cond.fieldLink RX0 23 "Alarmgrove$Diagnoser" "plausible" "I", Cond.methodLink RX0 19 yX0_plausibleOf, Cond.static yX0_plausibleOf, Cond.code yX0_plausibleOf cX0_plausibleOf 5 (some .int), Cond.methodLink RX0 65 yX1_users, Cond.instanceMethod yX1_users, Cond.selects RX1 yX1_users yX1_users, Cond.initialized RX1, Cond.code yX1_users cX1_users 2 (some .int), Cond.fieldLink RX1 15 "Alarmgrove$Graph" "users" "[I", Cond.static yX4_only]
def wsX4_diagnoser_r2 : List Cond := [Cond.initialized RX4, Cond.code yX4_only cX4_only 1 (some .int)]
def wsX4_diagnoser : List Cond := .code yX4_diagnoser cX4_diagnoser 1 (some (.object "Alarmgrove$Diagnoser")) :: ((wsX4_diagnoser_r1 ++ wsX4_diagnoser_r2) ++ wsX00 ++ wsX40 ++ wsX10)
def wsX4_isPlausible_r1 : List Cond := [Cond.methodLink RX4 37 yX4_checkNode, Cond.static yX4_checkNode, Cond.initialized RX4, Cond.code yX4_checkNode cX4_checkNode 1 none, Cond.classLink RX4 166 "java/lang/IndexOutOfBoundsException", Cond.initialized "java/lang/IndexOutOfBoundsException", Cond.methodLink RX4 137 yX4_diagnoser, Cond.instanceMethod yX4_diagnoser, Cond.selects RX4 yX4_diagnoser yX4_diagnoser, Cond.code yX4_diagnoser cX4_diagnoser 1 (some (.object "Alarmgrove$Diagnoser")), Cond.classLink RX4 142 RX0, Cond.instantiable RX0 3, Cond.initialized RX0, Cond.fieldLink RX4 10 "Alarmgrove" "graph" "LAlarmgrove$Graph;", Cond.fieldLink RX4 30 "Alarmgrove" "raised" "I", Cond.methodLink RX4 177 yX0_init, Cond.instanceMethod yX0_init, Cond.code yX0_init cX0_init 3 none, Cond.methodLink RX0 3 objectInit, Cond.instanceMethod objectInit, Cond.code objectInit ⟨#[0xb1]⟩ 1 none, Cond.fieldLink RX0 9 "Alarmgrove$Diagnoser" "graph" "LAlarmgrove$Graph;", Cond.fieldLink RX0 15 "Alarmgrove$Diagnoser" "raised" "I", Cond.fieldLink RX0 23 "Alarmgrove$Diagnoser" "plausible" "I"]
def wsX4_isPlausible_r2 : List Cond := [Cond.methodLink RX0 19 yX0_plausibleOf, Cond.static yX0_plausibleOf, Cond.code yX0_plausibleOf cX0_plausibleOf 5 (some .int), Cond.methodLink RX0 65 yX1_users, Cond.instanceMethod yX1_users, Cond.selects RX1 yX1_users yX1_users, Cond.initialized RX1, Cond.code yX1_users cX1_users 2 (some .int), Cond.fieldLink RX1 15 "Alarmgrove$Graph" "users" "[I", Cond.static yX4_only, Cond.code yX4_only cX4_only 1 (some .int), Cond.methodLink RX4 141 yX0_plausibleNodes, Cond.instanceMethod yX0_plausibleNodes, Cond.selects RX0 yX0_plausibleNodes yX0_plausibleNodes, Cond.code yX0_plausibleNodes cX0_plausibleNodes 1 (some .int), Cond.methodLink RX4 45 yX4_has, Cond.static yX4_has, Cond.code yX4_has cX4_has 2 (some .boolean), Cond.methodLink RX4 82 yX4_only]
def wsX4_isPlausible : List Cond := .code yX4_isPlausible cX4_isPlausible 2 (some .boolean) :: ((wsX4_isPlausible_r1 ++ wsX4_isPlausible_r2) ++ wsX00 ++ wsX40 ++ wsX10 ++ (vx_atS RX4 170 "java/lang/IndexOutOfBoundsException" ["java/lang/RuntimeException", "java/lang/Exception"]).filter goodWord)
def wsX4_causes_r1 : List Cond := [Cond.methodLink RX4 137 yX4_diagnoser, Cond.instanceMethod yX4_diagnoser, Cond.selects RX4 yX4_diagnoser yX4_diagnoser, Cond.initialized RX4, Cond.code yX4_diagnoser cX4_diagnoser 1 (some (.object "Alarmgrove$Diagnoser")), Cond.classLink RX4 142 RX0, Cond.instantiable RX0 3, Cond.initialized RX0, Cond.fieldLink RX4 10 "Alarmgrove" "graph" "LAlarmgrove$Graph;", Cond.fieldLink RX4 30 "Alarmgrove" "raised" "I", Cond.methodLink RX4 177 yX0_init, Cond.instanceMethod yX0_init, Cond.code yX0_init cX0_init 3 none, Cond.methodLink RX0 3 objectInit, Cond.instanceMethod objectInit, Cond.code objectInit ⟨#[0xb1]⟩ 1 none, Cond.fieldLink RX0 9 "Alarmgrove$Diagnoser" "graph" "LAlarmgrove$Graph;", Cond.fieldLink RX0 15 "Alarmgrove$Diagnoser" "raised" "I", Cond.fieldLink RX0 23 "Alarmgrove$Diagnoser" "plausible" "I", Cond.methodLink RX0 19 yX0_plausibleOf, Cond.static yX0_plausibleOf, Cond.code yX0_plausibleOf cX0_plausibleOf 5 (some .int), Cond.methodLink RX0 65 yX1_users, Cond.instanceMethod yX1_users]
def wsX4_causes_r2 : List Cond := [Cond.selects RX1 yX1_users yX1_users, Cond.initialized RX1, Cond.code yX1_users cX1_users 2 (some .int), Cond.fieldLink RX1 15 "Alarmgrove$Graph" "users" "[I", Cond.static yX4_only, Cond.code yX4_only cX4_only 1 (some .int), Cond.methodLink RX4 146 yX0_bestBySearch, Cond.instanceMethod yX0_bestBySearch, Cond.selects RX0 yX0_bestBySearch yX0_bestBySearch, Cond.code yX0_bestBySearch cX0_bestBySearch 1 (some .int), Cond.methodLink RX0 26 yX0_search, Cond.static yX0_search, Cond.code yX0_search cX0_search 13 (some .int), Cond.static yX4_nodeAtPlace, Cond.code yX4_nodeAtPlace cX4_nodeAtPlace 4 (some .int), Cond.methodLink RX4 45 yX4_has, Cond.static yX4_has, Cond.code yX4_has cX4_has 2 (some .boolean), Cond.methodLink RX4 82 yX4_only, Cond.methodLink RX0 36 yX0_isBetter, Cond.instanceMethod yX0_isBetter, Cond.selects RX0 yX0_isBetter yX0_isBetter, Cond.code yX0_isBetter cX0_isBetter 8 (some .boolean), Cond.methodLink RX0 30 yJ6_bitCount_0f7a4]
def wsX4_causes_r3 : List Cond := [Cond.static yJ6_bitCount_0f7a4, Cond.initialized RJ6, Cond.code yJ6_bitCount_0f7a4 cJ6_bitCount_0f7a4 1 (some .int), Cond.constant RJ6 265 (1431655765), Cond.constant RJ6 266 (858993459), Cond.constant RJ6 267 (252645135), Cond.methodLink RX0 59 yX1_explainersOf, Cond.instanceMethod yX1_explainersOf, Cond.selects RX1 yX1_explainersOf yX1_explainersOf, Cond.code yX1_explainersOf cX1_explainersOf 2 (some .int), Cond.fieldLink RX1 18 "Alarmgrove$Graph" "below" "[I", Cond.methodLink RX0 47 yX1_explainedBy, Cond.instanceMethod yX1_explainedBy, Cond.selects RX1 yX1_explainedBy yX1_explainedBy, Cond.code yX1_explainedBy cX1_explainedBy 2 (some .int), Cond.fieldLink RX1 21 "Alarmgrove$Graph" "above" "[I", Cond.methodLink RX4 149 yJ6_bitCount_0f7a4]
def wsX4_causes : List Cond := .code yX4_causes cX4_causes 1 (some .int) :: ((wsX4_causes_r1 ++ (wsX4_causes_r2 ++ wsX4_causes_r3)) ++ wsX00 ++ wsX40 ++ wsX10)
def wsX4_nodeThere : List Cond := .code yX4_nodeThere cX4_nodeThere 3 (some .int) :: ([.classLink RX4 166 "java/lang/IndexOutOfBoundsException", .initialized "java/lang/IndexOutOfBoundsException", .methodLink RX4 174 yX4_nodeAtPlace, .static yX4_nodeAtPlace, .initialized RX4, .code yX4_nodeAtPlace cX4_nodeAtPlace 4 (some .int), .methodLink RX4 45 yX4_has, .static yX4_has, .code yX4_has cX4_has 2 (some .boolean), .methodLink RX4 82 yX4_only, .static yX4_only, .code yX4_only cX4_only 1 (some .int)] ++ (vx_atS RX4 170 "java/lang/IndexOutOfBoundsException" ["java/lang/RuntimeException", "java/lang/Exception"]).filter goodWord)
def wsX4_cause_r1 : List Cond := [Cond.methodLink RX4 137 yX4_diagnoser, Cond.instanceMethod yX4_diagnoser, Cond.selects RX4 yX4_diagnoser yX4_diagnoser, Cond.initialized RX4, Cond.code yX4_diagnoser cX4_diagnoser 1 (some (.object "Alarmgrove$Diagnoser")), Cond.classLink RX4 142 RX0, Cond.instantiable RX0 3, Cond.initialized RX0, Cond.fieldLink RX4 10 "Alarmgrove" "graph" "LAlarmgrove$Graph;", Cond.fieldLink RX4 30 "Alarmgrove" "raised" "I", Cond.methodLink RX4 177 yX0_init, Cond.instanceMethod yX0_init, Cond.code yX0_init cX0_init 3 none, Cond.methodLink RX0 3 objectInit, Cond.instanceMethod objectInit, Cond.code objectInit ⟨#[0xb1]⟩ 1 none, Cond.fieldLink RX0 9 "Alarmgrove$Diagnoser" "graph" "LAlarmgrove$Graph;", Cond.fieldLink RX0 15 "Alarmgrove$Diagnoser" "raised" "I", Cond.fieldLink RX0 23 "Alarmgrove$Diagnoser" "plausible" "I", Cond.methodLink RX0 19 yX0_plausibleOf, Cond.static yX0_plausibleOf, Cond.code yX0_plausibleOf cX0_plausibleOf 5 (some .int), Cond.methodLink RX0 65 yX1_users, Cond.instanceMethod yX1_users]
def wsX4_cause_r2 : List Cond := [Cond.selects RX1 yX1_users yX1_users, Cond.initialized RX1, Cond.code yX1_users cX1_users 2 (some .int), Cond.fieldLink RX1 15 "Alarmgrove$Graph" "users" "[I", Cond.static yX4_only, Cond.code yX4_only cX4_only 1 (some .int), Cond.methodLink RX4 146 yX0_bestBySearch, Cond.instanceMethod yX0_bestBySearch, Cond.selects RX0 yX0_bestBySearch yX0_bestBySearch, Cond.code yX0_bestBySearch cX0_bestBySearch 1 (some .int), Cond.methodLink RX0 26 yX0_search, Cond.static yX0_search, Cond.code yX0_search cX0_search 13 (some .int), Cond.static yX4_nodeAtPlace, Cond.code yX4_nodeAtPlace cX4_nodeAtPlace 4 (some .int), Cond.methodLink RX4 45 yX4_has, Cond.static yX4_has, Cond.code yX4_has cX4_has 2 (some .boolean), Cond.methodLink RX4 82 yX4_only, Cond.methodLink RX0 36 yX0_isBetter, Cond.instanceMethod yX0_isBetter, Cond.selects RX0 yX0_isBetter yX0_isBetter, Cond.code yX0_isBetter cX0_isBetter 8 (some .boolean), Cond.methodLink RX0 30 yJ6_bitCount_0f7a4]
def wsX4_cause_r3 : List Cond := [Cond.static yJ6_bitCount_0f7a4, Cond.initialized RJ6, Cond.code yJ6_bitCount_0f7a4 cJ6_bitCount_0f7a4 1 (some .int), Cond.constant RJ6 265 (1431655765), Cond.constant RJ6 266 (858993459), Cond.constant RJ6 267 (252645135), Cond.methodLink RX0 59 yX1_explainersOf, Cond.instanceMethod yX1_explainersOf, Cond.selects RX1 yX1_explainersOf yX1_explainersOf, Cond.code yX1_explainersOf cX1_explainersOf 2 (some .int), Cond.fieldLink RX1 18 "Alarmgrove$Graph" "below" "[I", Cond.methodLink RX0 47 yX1_explainedBy, Cond.instanceMethod yX1_explainedBy, Cond.selects RX1 yX1_explainedBy yX1_explainedBy, Cond.code yX1_explainedBy cX1_explainedBy 2 (some .int), Cond.fieldLink RX1 21 "Alarmgrove$Graph" "above" "[I", Cond.methodLink RX4 154 yX4_nodeThere, Cond.static yX4_nodeThere, Cond.code yX4_nodeThere cX4_nodeThere 3 (some .int), Cond.classLink RX4 166 "java/lang/IndexOutOfBoundsException", Cond.initialized "java/lang/IndexOutOfBoundsException", Cond.methodLink RX4 174 yX4_nodeAtPlace]
def wsX4_cause : List Cond := .code yX4_cause cX4_cause 2 (some .int) :: ((wsX4_cause_r1 ++ (wsX4_cause_r2 ++ wsX4_cause_r3)) ++ wsX00 ++ wsX40 ++ wsX10 ++ (vx_atS RX4 170 "java/lang/IndexOutOfBoundsException" ["java/lang/RuntimeException", "java/lang/Exception"]).filter goodWord)
def wsX4_causeByTrying_r1 : List Cond := [Cond.methodLink RX4 137 yX4_diagnoser, Cond.instanceMethod yX4_diagnoser, Cond.selects RX4 yX4_diagnoser yX4_diagnoser, Cond.initialized RX4, Cond.code yX4_diagnoser cX4_diagnoser 1 (some (.object "Alarmgrove$Diagnoser")), Cond.classLink RX4 142 RX0, Cond.instantiable RX0 3, Cond.initialized RX0, Cond.fieldLink RX4 10 "Alarmgrove" "graph" "LAlarmgrove$Graph;", Cond.fieldLink RX4 30 "Alarmgrove" "raised" "I", Cond.methodLink RX4 177 yX0_init, Cond.instanceMethod yX0_init, Cond.code yX0_init cX0_init 3 none, Cond.methodLink RX0 3 objectInit, Cond.instanceMethod objectInit, Cond.code objectInit ⟨#[0xb1]⟩ 1 none, Cond.fieldLink RX0 9 "Alarmgrove$Diagnoser" "graph" "LAlarmgrove$Graph;", Cond.fieldLink RX0 15 "Alarmgrove$Diagnoser" "raised" "I", Cond.fieldLink RX0 23 "Alarmgrove$Diagnoser" "plausible" "I", Cond.methodLink RX0 19 yX0_plausibleOf, Cond.static yX0_plausibleOf, Cond.code yX0_plausibleOf cX0_plausibleOf 5 (some .int), Cond.methodLink RX0 65 yX1_users, Cond.instanceMethod yX1_users]
def wsX4_causeByTrying_r2 : List Cond := [Cond.selects RX1 yX1_users yX1_users, Cond.initialized RX1, Cond.code yX1_users cX1_users 2 (some .int), Cond.fieldLink RX1 15 "Alarmgrove$Graph" "users" "[I", Cond.static yX4_only, Cond.code yX4_only cX4_only 1 (some .int), Cond.methodLink RX4 157 yX0_bestByTrying, Cond.instanceMethod yX0_bestByTrying, Cond.selects RX0 yX0_bestByTrying yX0_bestByTrying, Cond.code yX0_bestByTrying cX0_bestByTrying 5 (some .int), Cond.methodLink RX0 30 yJ6_bitCount_0f7a4, Cond.static yJ6_bitCount_0f7a4, Cond.initialized RJ6, Cond.code yJ6_bitCount_0f7a4 cJ6_bitCount_0f7a4 1 (some .int), Cond.constant RJ6 265 (1431655765), Cond.constant RJ6 266 (858993459), Cond.constant RJ6 267 (252645135), Cond.methodLink RX0 36 yX0_isBetter, Cond.instanceMethod yX0_isBetter, Cond.selects RX0 yX0_isBetter yX0_isBetter, Cond.code yX0_isBetter cX0_isBetter 8 (some .boolean), Cond.static yX4_nodeAtPlace, Cond.code yX4_nodeAtPlace cX4_nodeAtPlace 4 (some .int), Cond.methodLink RX4 45 yX4_has]
def wsX4_causeByTrying_r3 : List Cond := [Cond.static yX4_has, Cond.code yX4_has cX4_has 2 (some .boolean), Cond.methodLink RX4 82 yX4_only, Cond.methodLink RX0 40 yX0_explainsAll, Cond.instanceMethod yX0_explainsAll, Cond.selects RX0 yX0_explainsAll yX0_explainsAll, Cond.code yX0_explainsAll cX0_explainsAll 3 (some .boolean), Cond.methodLink RX0 59 yX1_explainersOf, Cond.instanceMethod yX1_explainersOf, Cond.selects RX1 yX1_explainersOf yX1_explainersOf, Cond.code yX1_explainersOf cX1_explainersOf 2 (some .int), Cond.fieldLink RX1 18 "Alarmgrove$Graph" "below" "[I", Cond.methodLink RX4 154 yX4_nodeThere, Cond.static yX4_nodeThere, Cond.code yX4_nodeThere cX4_nodeThere 3 (some .int), Cond.classLink RX4 166 "java/lang/IndexOutOfBoundsException", Cond.initialized "java/lang/IndexOutOfBoundsException", Cond.methodLink RX4 174 yX4_nodeAtPlace]
def wsX4_causeByTrying : List Cond := .code yX4_causeByTrying cX4_causeByTrying 2 (some .int) :: ((wsX4_causeByTrying_r1 ++ (wsX4_causeByTrying_r2 ++ wsX4_causeByTrying_r3)) ++ wsX00 ++ wsX40 ++ wsX10 ++ (vx_atS RX4 170 "java/lang/IndexOutOfBoundsException" ["java/lang/RuntimeException", "java/lang/Exception"]).filter goodWord)
def wsX4_greedyCauses_r1 : List Cond := [Cond.methodLink RX4 137 yX4_diagnoser, Cond.instanceMethod yX4_diagnoser, Cond.selects RX4 yX4_diagnoser yX4_diagnoser, Cond.initialized RX4, Cond.code yX4_diagnoser cX4_diagnoser 1 (some (.object "Alarmgrove$Diagnoser")), Cond.classLink RX4 142 RX0, Cond.instantiable RX0 3, Cond.initialized RX0, Cond.fieldLink RX4 10 "Alarmgrove" "graph" "LAlarmgrove$Graph;", Cond.fieldLink RX4 30 "Alarmgrove" "raised" "I", Cond.methodLink RX4 177 yX0_init, Cond.instanceMethod yX0_init, Cond.code yX0_init cX0_init 3 none, Cond.methodLink RX0 3 objectInit, Cond.instanceMethod objectInit, Cond.code objectInit ⟨#[0xb1]⟩ 1 none, Cond.fieldLink RX0 9 "Alarmgrove$Diagnoser" "graph" "LAlarmgrove$Graph;", Cond.fieldLink RX0 15 "Alarmgrove$Diagnoser" "raised" "I", Cond.fieldLink RX0 23 "Alarmgrove$Diagnoser" "plausible" "I", Cond.methodLink RX0 19 yX0_plausibleOf, Cond.static yX0_plausibleOf, Cond.code yX0_plausibleOf cX0_plausibleOf 5 (some .int), Cond.methodLink RX0 65 yX1_users, Cond.instanceMethod yX1_users]
def wsX4_greedyCauses_r2 : List Cond := [Cond.selects RX1 yX1_users yX1_users, Cond.initialized RX1, Cond.code yX1_users cX1_users 2 (some .int), Cond.fieldLink RX1 15 "Alarmgrove$Graph" "users" "[I", Cond.static yX4_only, Cond.code yX4_only cX4_only 1 (some .int), Cond.methodLink RX4 160 yX0_greedyCount, Cond.instanceMethod yX0_greedyCount, Cond.selects RX0 yX0_greedyCount yX0_greedyCount, Cond.code yX0_greedyCount cX0_greedyCount 3 (some .int), Cond.methodLink RX0 44 yX0_greedyNext, Cond.instanceMethod yX0_greedyNext, Cond.selects RX0 yX0_greedyNext yX0_greedyNext, Cond.code yX0_greedyNext cX0_greedyNext 7 (some .int), Cond.static yX4_has, Cond.code yX4_has cX4_has 2 (some .boolean), Cond.methodLink RX4 82 yX4_only, Cond.methodLink RX0 47 yX1_explainedBy, Cond.instanceMethod yX1_explainedBy, Cond.selects RX1 yX1_explainedBy yX1_explainedBy, Cond.code yX1_explainedBy cX1_explainedBy 2 (some .int), Cond.fieldLink RX1 21 "Alarmgrove$Graph" "above" "[I", Cond.methodLink RX0 30 yJ6_bitCount_0f7a4, Cond.static yJ6_bitCount_0f7a4]
def wsX4_greedyCauses_r3 : List Cond := [Cond.initialized RJ6, Cond.code yJ6_bitCount_0f7a4 cJ6_bitCount_0f7a4 1 (some .int), Cond.constant RJ6 265 (1431655765), Cond.constant RJ6 266 (858993459), Cond.constant RJ6 267 (252645135)]
def wsX4_greedyCauses : List Cond := .code yX4_greedyCauses cX4_greedyCauses 1 (some .int) :: ((wsX4_greedyCauses_r1 ++ (wsX4_greedyCauses_r2 ++ wsX4_greedyCauses_r3)) ++ wsX00 ++ wsX40 ++ wsX10)
def wsX4_greedyCause_r1 : List Cond := [Cond.classLink RX4 166 "java/lang/IndexOutOfBoundsException", Cond.initialized "java/lang/IndexOutOfBoundsException", Cond.methodLink RX4 137 yX4_diagnoser, Cond.instanceMethod yX4_diagnoser, Cond.selects RX4 yX4_diagnoser yX4_diagnoser, Cond.initialized RX4, Cond.code yX4_diagnoser cX4_diagnoser 1 (some (.object "Alarmgrove$Diagnoser")), Cond.classLink RX4 142 RX0, Cond.instantiable RX0 3, Cond.initialized RX0, Cond.fieldLink RX4 10 "Alarmgrove" "graph" "LAlarmgrove$Graph;", Cond.fieldLink RX4 30 "Alarmgrove" "raised" "I", Cond.methodLink RX4 177 yX0_init, Cond.instanceMethod yX0_init, Cond.code yX0_init cX0_init 3 none, Cond.methodLink RX0 3 objectInit, Cond.instanceMethod objectInit, Cond.code objectInit ⟨#[0xb1]⟩ 1 none, Cond.fieldLink RX0 9 "Alarmgrove$Diagnoser" "graph" "LAlarmgrove$Graph;", Cond.fieldLink RX0 15 "Alarmgrove$Diagnoser" "raised" "I", Cond.fieldLink RX0 23 "Alarmgrove$Diagnoser" "plausible" "I", Cond.methodLink RX0 19 yX0_plausibleOf, Cond.static yX0_plausibleOf, Cond.code yX0_plausibleOf cX0_plausibleOf 5 (some .int)]
def wsX4_greedyCause_r2 : List Cond := [Cond.methodLink RX0 65 yX1_users, Cond.instanceMethod yX1_users, Cond.selects RX1 yX1_users yX1_users, Cond.initialized RX1, Cond.code yX1_users cX1_users 2 (some .int), Cond.fieldLink RX1 15 "Alarmgrove$Graph" "users" "[I", Cond.static yX4_only, Cond.code yX4_only cX4_only 1 (some .int), Cond.methodLink RX4 163 yX0_greedyAt, Cond.instanceMethod yX0_greedyAt, Cond.selects RX0 yX0_greedyAt yX0_greedyAt, Cond.code yX0_greedyAt cX0_greedyAt 5 (some .int), Cond.methodLink RX0 44 yX0_greedyNext, Cond.instanceMethod yX0_greedyNext, Cond.selects RX0 yX0_greedyNext yX0_greedyNext, Cond.code yX0_greedyNext cX0_greedyNext 7 (some .int), Cond.static yX4_has, Cond.code yX4_has cX4_has 2 (some .boolean), Cond.methodLink RX4 82 yX4_only, Cond.methodLink RX0 47 yX1_explainedBy, Cond.instanceMethod yX1_explainedBy, Cond.selects RX1 yX1_explainedBy yX1_explainedBy, Cond.code yX1_explainedBy cX1_explainedBy 2 (some .int), Cond.fieldLink RX1 21 "Alarmgrove$Graph" "above" "[I"]
def wsX4_greedyCause_r3 : List Cond := [Cond.methodLink RX0 30 yJ6_bitCount_0f7a4, Cond.static yJ6_bitCount_0f7a4, Cond.initialized RJ6, Cond.code yJ6_bitCount_0f7a4 cJ6_bitCount_0f7a4 1 (some .int), Cond.constant RJ6 265 (1431655765), Cond.constant RJ6 266 (858993459), Cond.constant RJ6 267 (252645135)]
def wsX4_greedyCause : List Cond := .code yX4_greedyCause cX4_greedyCause 3 (some .int) :: ((wsX4_greedyCause_r1 ++ (wsX4_greedyCause_r2 ++ wsX4_greedyCause_r3)) ++ wsX00 ++ wsX40 ++ wsX10 ++ (vx_atS RX4 170 "java/lang/IndexOutOfBoundsException" ["java/lang/RuntimeException", "java/lang/Exception"]).filter goodWord)
def wsX4_causeOf_r1 : List Cond := [Cond.fieldLink RX4 30 "Alarmgrove" "raised" "I", Cond.fieldLink RX4 10 "Alarmgrove" "graph" "LAlarmgrove$Graph;", Cond.methodLink RX4 37 yX4_checkNode, Cond.static yX4_checkNode, Cond.initialized RX4, Cond.code yX4_checkNode cX4_checkNode 1 none, Cond.classLink RX4 166 "java/lang/IndexOutOfBoundsException", Cond.initialized "java/lang/IndexOutOfBoundsException", Cond.methodLink RX4 45 yX4_has, Cond.static yX4_has, Cond.code yX4_has cX4_has 2 (some .boolean), Cond.methodLink RX4 82 yX4_only, Cond.static yX4_only, Cond.code yX4_only cX4_only 1 (some .int), Cond.methodLink RX4 137 yX4_diagnoser, Cond.instanceMethod yX4_diagnoser, Cond.selects RX4 yX4_diagnoser yX4_diagnoser, Cond.code yX4_diagnoser cX4_diagnoser 1 (some (.object "Alarmgrove$Diagnoser")), Cond.classLink RX4 142 RX0, Cond.instantiable RX0 3, Cond.initialized RX0, Cond.methodLink RX4 177 yX0_init, Cond.instanceMethod yX0_init, Cond.code yX0_init cX0_init 3 none]
def wsX4_causeOf_r2 : List Cond := [Cond.methodLink RX0 3 objectInit, Cond.instanceMethod objectInit, Cond.code objectInit ⟨#[0xb1]⟩ 1 none, Cond.fieldLink RX0 9 "Alarmgrove$Diagnoser" "graph" "LAlarmgrove$Graph;", Cond.fieldLink RX0 15 "Alarmgrove$Diagnoser" "raised" "I", Cond.fieldLink RX0 23 "Alarmgrove$Diagnoser" "plausible" "I", Cond.methodLink RX0 19 yX0_plausibleOf, Cond.static yX0_plausibleOf, Cond.code yX0_plausibleOf cX0_plausibleOf 5 (some .int), Cond.methodLink RX0 65 yX1_users, Cond.instanceMethod yX1_users, Cond.selects RX1 yX1_users yX1_users, Cond.initialized RX1, Cond.code yX1_users cX1_users 2 (some .int), Cond.fieldLink RX1 15 "Alarmgrove$Graph" "users" "[I", Cond.methodLink RX4 146 yX0_bestBySearch, Cond.instanceMethod yX0_bestBySearch, Cond.selects RX0 yX0_bestBySearch yX0_bestBySearch, Cond.code yX0_bestBySearch cX0_bestBySearch 1 (some .int), Cond.methodLink RX0 26 yX0_search, Cond.static yX0_search, Cond.code yX0_search cX0_search 13 (some .int), Cond.static yX4_nodeAtPlace, Cond.code yX4_nodeAtPlace cX4_nodeAtPlace 4 (some .int)]
def wsX4_causeOf_r3 : List Cond := [Cond.methodLink RX0 36 yX0_isBetter, Cond.instanceMethod yX0_isBetter, Cond.selects RX0 yX0_isBetter yX0_isBetter, Cond.code yX0_isBetter cX0_isBetter 8 (some .boolean), Cond.methodLink RX0 30 yJ6_bitCount_0f7a4, Cond.static yJ6_bitCount_0f7a4, Cond.initialized RJ6, Cond.code yJ6_bitCount_0f7a4 cJ6_bitCount_0f7a4 1 (some .int), Cond.constant RJ6 265 (1431655765), Cond.constant RJ6 266 (858993459), Cond.constant RJ6 267 (252645135), Cond.methodLink RX0 59 yX1_explainersOf, Cond.instanceMethod yX1_explainersOf, Cond.selects RX1 yX1_explainersOf yX1_explainersOf, Cond.code yX1_explainersOf cX1_explainersOf 2 (some .int), Cond.fieldLink RX1 18 "Alarmgrove$Graph" "below" "[I", Cond.methodLink RX0 47 yX1_explainedBy, Cond.instanceMethod yX1_explainedBy, Cond.selects RX1 yX1_explainedBy yX1_explainedBy, Cond.code yX1_explainedBy cX1_explainedBy 2 (some .int), Cond.fieldLink RX1 21 "Alarmgrove$Graph" "above" "[I", Cond.methodLink RX4 171 yX1_explainersOf, Cond.methodLink RX4 174 yX4_nodeAtPlace]
def wsX4_causeOf : List Cond := .code yX4_causeOf cX4_causeOf 2 (some .int) :: ((wsX4_causeOf_r1 ++ (wsX4_causeOf_r2 ++ wsX4_causeOf_r3)) ++ wsX40 ++ wsX00 ++ wsX10 ++ (vx_atS RX4 170 "java/lang/IndexOutOfBoundsException" ["java/lang/RuntimeException", "java/lang/Exception"]).filter goodWord)
def wsX5_init : List Cond := .code yX5_init cX5_init 1 none :: ([.methodLink RX5 1 objectInit, .instanceMethod objectInit, .code objectInit ⟨#[0xb1]⟩ 1 none, .arrayClass .int, .fieldLink RX5 7 "AlarmgroveModel" "needs" "[I", .fieldLink RX5 13 "AlarmgroveModel" "under" "[I", .fieldLink RX5 16 "AlarmgroveModel" "since" "[I", .fieldLink RX5 19 "AlarmgroveModel" "ticket" "[I", .fieldLink RX5 22 "AlarmgroveModel" "nodes" "[I", .fieldLink RX5 25 "AlarmgroveModel" "states" "[I", .fieldLink RX5 28 "AlarmgroveModel" "into" "[I", .fieldLink RX5 31 "AlarmgroveModel" "kind" "[I", .fieldLink RX5 34 "AlarmgroveModel" "node" "[I", .fieldLink RX5 37 "AlarmgroveModel" "time" "[I", .fieldLink RX5 40 "AlarmgroveModel" "length" "[I"] ++ wsX50)
def wsX5_thrown : List Cond := .code yX5_thrown cX5_thrown 1 (some .int) :: ([.fieldLink RX5 43 "AlarmgroveModel" "thrown" "I"] ++ wsX50)
def wsX5_goes : List Cond := .code yX5_goes cX5_goes 3 (some .boolean) :: ([.fieldLink RX5 43 "AlarmgroveModel" "thrown" "I"] ++ wsX50)
def wsX5_isNode : List Cond := .code yX5_isNode cX5_isNode 1 (some .boolean) :: ([])
def wsX5_has : List Cond := .code yX5_has cX5_has 2 (some .boolean) :: ([])
def wsX5_count : List Cond := .code yX5_count cX5_count 3 (some .int) :: ([])
def wsX5_at : List Cond := .code yX5_at cX5_at 5 (some .int) :: ([.methodLink RX5 47 yX5_has, .static yX5_has, .initialized RX5, .code yX5_has cX5_has 2 (some .boolean)])
def wsX5_closes : List Cond := .code yX5_closes cX5_closes 4 none :: ([.fieldLink RX5 13 "AlarmgroveModel" "under" "[I", .fieldLink RX5 7 "AlarmgroveModel" "needs" "[I", .methodLink RX5 47 yX5_has, .static yX5_has, .initialized RX5, .code yX5_has cX5_has 2 (some .boolean)] ++ wsX50)
def wsX5_need : List Cond := .code yX5_need cX5_need 5 (some .boolean) :: ([.fieldLink RX5 13 "AlarmgroveModel" "under" "[I", .fieldLink RX5 7 "AlarmgroveModel" "needs" "[I", .methodLink RX5 51 yX5_isNode, .static yX5_isNode, .initialized RX5, .code yX5_isNode cX5_isNode 1 (some .boolean), .methodLink RX5 47 yX5_has, .static yX5_has, .code yX5_has cX5_has 2 (some .boolean), .methodLink RX5 55 yX5_goes, .instanceMethod yX5_goes, .selects RX5 yX5_goes yX5_goes, .code yX5_goes cX5_goes 3 (some .boolean), .fieldLink RX5 43 "AlarmgroveModel" "thrown" "I", .methodLink RX5 59 yX5_closes, .instanceMethod yX5_closes, .selects RX5 yX5_closes yX5_closes, .code yX5_closes cX5_closes 4 none] ++ wsX50)
def wsX5_release : List Cond := .code yX5_release cX5_release 4 (some .boolean) :: ([.fieldLink RX5 7 "AlarmgroveModel" "needs" "[I", .methodLink RX5 51 yX5_isNode, .static yX5_isNode, .initialized RX5, .code yX5_isNode cX5_isNode 1 (some .boolean), .methodLink RX5 55 yX5_goes, .instanceMethod yX5_goes, .selects RX5 yX5_goes yX5_goes, .code yX5_goes cX5_goes 3 (some .boolean), .fieldLink RX5 43 "AlarmgroveModel" "thrown" "I", .methodLink RX5 47 yX5_has, .static yX5_has, .code yX5_has cX5_has 2 (some .boolean), .methodLink RX5 59 yX5_closes, .instanceMethod yX5_closes, .selects RX5 yX5_closes yX5_closes, .code yX5_closes cX5_closes 4 none, .fieldLink RX5 13 "AlarmgroveModel" "under" "[I"] ++ wsX50)
def wsX5_needs : List Cond := .code yX5_needs cX5_needs 3 (some .boolean) :: ([.fieldLink RX5 7 "AlarmgroveModel" "needs" "[I", .methodLink RX5 51 yX5_isNode, .static yX5_isNode, .initialized RX5, .code yX5_isNode cX5_isNode 1 (some .boolean), .methodLink RX5 55 yX5_goes, .instanceMethod yX5_goes, .selects RX5 yX5_goes yX5_goes, .code yX5_goes cX5_goes 3 (some .boolean), .fieldLink RX5 43 "AlarmgroveModel" "thrown" "I", .methodLink RX5 47 yX5_has, .static yX5_has, .code yX5_has cX5_has 2 (some .boolean)] ++ wsX50)
def wsX5_dependsOn : List Cond := .code yX5_dependsOn cX5_dependsOn 3 (some .boolean) :: ([.fieldLink RX5 13 "AlarmgroveModel" "under" "[I", .methodLink RX5 51 yX5_isNode, .static yX5_isNode, .initialized RX5, .code yX5_isNode cX5_isNode 1 (some .boolean), .methodLink RX5 55 yX5_goes, .instanceMethod yX5_goes, .selects RX5 yX5_goes yX5_goes, .code yX5_goes cX5_goes 3 (some .boolean), .fieldLink RX5 43 "AlarmgroveModel" "thrown" "I", .methodLink RX5 47 yX5_has, .static yX5_has, .code yX5_has cX5_has 2 (some .boolean)] ++ wsX50)
def wsX5_height : List Cond := .code yX5_height cX5_height 6 (some .int) :: ([.fieldLink RX5 7 "AlarmgroveModel" "needs" "[I", .methodLink RX5 51 yX5_isNode, .static yX5_isNode, .initialized RX5, .code yX5_isNode cX5_isNode 1 (some .boolean), .methodLink RX5 55 yX5_goes, .instanceMethod yX5_goes, .selects RX5 yX5_goes yX5_goes, .code yX5_goes cX5_goes 3 (some .boolean), .fieldLink RX5 43 "AlarmgroveModel" "thrown" "I", .methodLink RX5 47 yX5_has, .static yX5_has, .code yX5_has cX5_has 2 (some .boolean)] ++ wsX50)
def wsX5_tick : List Cond := .code yX5_tick cX5_tick 2 (some .int) :: ([.fieldLink RX5 62 "AlarmgroveModel" "now" "I", .methodLink RX5 55 yX5_goes, .instanceMethod yX5_goes, .selects RX5 yX5_goes yX5_goes, .initialized RX5, .code yX5_goes cX5_goes 3 (some .boolean), .fieldLink RX5 43 "AlarmgroveModel" "thrown" "I"] ++ wsX50)
def wsX5_now : List Cond := .code yX5_now cX5_now 1 (some .int) :: ([.fieldLink RX5 43 "AlarmgroveModel" "thrown" "I", .fieldLink RX5 62 "AlarmgroveModel" "now" "I"] ++ wsX50)
def wsX5_notes : List Cond := .code yX5_notes cX5_notes 4 none :: ([.fieldLink RX5 31 "AlarmgroveModel" "kind" "[I", .fieldLink RX5 65 "AlarmgroveModel" "events" "I", .fieldLink RX5 34 "AlarmgroveModel" "node" "[I", .fieldLink RX5 37 "AlarmgroveModel" "time" "[I", .fieldLink RX5 62 "AlarmgroveModel" "now" "I", .fieldLink RX5 40 "AlarmgroveModel" "length" "[I"] ++ wsX50)
def wsX5_kin : List Cond := .code yX5_kin cX5_kin 4 (some .int) :: ([.fieldLink RX5 13 "AlarmgroveModel" "under" "[I", .methodLink RX5 47 yX5_has, .static yX5_has, .initialized RX5, .code yX5_has cX5_has 2 (some .boolean)] ++ wsX50)
def wsX5_raise_r1 : List Cond := [Cond.fieldLink RX5 68 "AlarmgroveModel" "raised" "I", Cond.fieldLink RX5 65 "AlarmgroveModel" "events" "I", Cond.fieldLink RX5 19 "AlarmgroveModel" "ticket" "[I", Cond.fieldLink RX5 75 "AlarmgroveModel" "tickets" "I", Cond.fieldLink RX5 25 "AlarmgroveModel" "states" "[I", Cond.fieldLink RX5 22 "AlarmgroveModel" "nodes" "[I", Cond.fieldLink RX5 28 "AlarmgroveModel" "into" "[I", Cond.fieldLink RX5 16 "AlarmgroveModel" "since" "[I", Cond.fieldLink RX5 62 "AlarmgroveModel" "now" "I", Cond.methodLink RX5 51 yX5_isNode, Cond.static yX5_isNode, Cond.initialized RX5, Cond.code yX5_isNode cX5_isNode 1 (some .boolean), Cond.methodLink RX5 47 yX5_has, Cond.static yX5_has, Cond.code yX5_has cX5_has 2 (some .boolean), Cond.methodLink RX5 55 yX5_goes, Cond.instanceMethod yX5_goes, Cond.selects RX5 yX5_goes yX5_goes, Cond.code yX5_goes cX5_goes 3 (some .boolean), Cond.fieldLink RX5 43 "AlarmgroveModel" "thrown" "I", Cond.methodLink RX5 71 yX5_kin, Cond.instanceMethod yX5_kin, Cond.selects RX5 yX5_kin yX5_kin]
def wsX5_raise_r2 : List Cond := [Cond.code yX5_kin cX5_kin 4 (some .int), Cond.fieldLink RX5 13 "AlarmgroveModel" "under" "[I", Cond.methodLink RX5 78 yX5_notes, Cond.instanceMethod yX5_notes, Cond.selects RX5 yX5_notes yX5_notes, Cond.code yX5_notes cX5_notes 4 none, Cond.fieldLink RX5 31 "AlarmgroveModel" "kind" "[I", Cond.fieldLink RX5 34 "AlarmgroveModel" "node" "[I", Cond.fieldLink RX5 37 "AlarmgroveModel" "time" "[I", Cond.fieldLink RX5 40 "AlarmgroveModel" "length" "[I"]
def wsX5_raise : List Cond := .code yX5_raise cX5_raise 6 (some .int) :: ((wsX5_raise_r1 ++ wsX5_raise_r2) ++ wsX50)
def wsX5_clear_r1 : List Cond := [Cond.fieldLink RX5 68 "AlarmgroveModel" "raised" "I", Cond.fieldLink RX5 65 "AlarmgroveModel" "events" "I", Cond.fieldLink RX5 19 "AlarmgroveModel" "ticket" "[I", Cond.fieldLink RX5 22 "AlarmgroveModel" "nodes" "[I", Cond.fieldLink RX5 25 "AlarmgroveModel" "states" "[I", Cond.fieldLink RX5 62 "AlarmgroveModel" "now" "I", Cond.fieldLink RX5 16 "AlarmgroveModel" "since" "[I", Cond.methodLink RX5 51 yX5_isNode, Cond.static yX5_isNode, Cond.initialized RX5, Cond.code yX5_isNode cX5_isNode 1 (some .boolean), Cond.methodLink RX5 47 yX5_has, Cond.static yX5_has, Cond.code yX5_has cX5_has 2 (some .boolean), Cond.methodLink RX5 55 yX5_goes, Cond.instanceMethod yX5_goes, Cond.selects RX5 yX5_goes yX5_goes, Cond.code yX5_goes cX5_goes 3 (some .boolean), Cond.fieldLink RX5 43 "AlarmgroveModel" "thrown" "I", Cond.methodLink RX5 78 yX5_notes, Cond.instanceMethod yX5_notes, Cond.selects RX5 yX5_notes yX5_notes, Cond.code yX5_notes cX5_notes 4 none, Cond.fieldLink RX5 31 "AlarmgroveModel" "kind" "[I"]
def wsX5_clear_r2 : List Cond := [Cond.fieldLink RX5 34 "AlarmgroveModel" "node" "[I", Cond.fieldLink RX5 37 "AlarmgroveModel" "time" "[I", Cond.fieldLink RX5 40 "AlarmgroveModel" "length" "[I", Cond.methodLink RX5 82 yX5_count, Cond.static yX5_count, Cond.code yX5_count cX5_count 3 (some .int)]
def wsX5_clear : List Cond := .code yX5_clear cX5_clear 4 (some .int) :: ((wsX5_clear_r1 ++ wsX5_clear_r2) ++ wsX50)
def wsX5_raisesOf : List Cond := .code yX5_raisesOf cX5_raisesOf 5 (some .int) :: ([.fieldLink RX5 65 "AlarmgroveModel" "events" "I", .fieldLink RX5 31 "AlarmgroveModel" "kind" "[I", .fieldLink RX5 34 "AlarmgroveModel" "node" "[I", .fieldLink RX5 37 "AlarmgroveModel" "time" "[I", .fieldLink RX5 62 "AlarmgroveModel" "now" "I"] ++ wsX50)
def wsX5_stateOf : List Cond := .code yX5_stateOf cX5_stateOf 2 (some .int) :: ([.fieldLink RX5 68 "AlarmgroveModel" "raised" "I", .fieldLink RX5 13 "AlarmgroveModel" "under" "[I", .methodLink RX5 47 yX5_has, .static yX5_has, .initialized RX5, .code yX5_has cX5_has 2 (some .boolean), .methodLink RX5 85 yX5_raisesOf, .instanceMethod yX5_raisesOf, .selects RX5 yX5_raisesOf yX5_raisesOf, .code yX5_raisesOf cX5_raisesOf 5 (some .int), .fieldLink RX5 65 "AlarmgroveModel" "events" "I", .fieldLink RX5 31 "AlarmgroveModel" "kind" "[I", .fieldLink RX5 34 "AlarmgroveModel" "node" "[I", .fieldLink RX5 37 "AlarmgroveModel" "time" "[I", .fieldLink RX5 62 "AlarmgroveModel" "now" "I"] ++ wsX50)
def wsX5_state_r1 : List Cond := [Cond.methodLink RX5 51 yX5_isNode, Cond.static yX5_isNode, Cond.initialized RX5, Cond.code yX5_isNode cX5_isNode 1 (some .boolean), Cond.methodLink RX5 55 yX5_goes, Cond.instanceMethod yX5_goes, Cond.selects RX5 yX5_goes yX5_goes, Cond.code yX5_goes cX5_goes 3 (some .boolean), Cond.fieldLink RX5 43 "AlarmgroveModel" "thrown" "I", Cond.methodLink RX5 89 yX5_stateOf, Cond.instanceMethod yX5_stateOf, Cond.selects RX5 yX5_stateOf yX5_stateOf, Cond.code yX5_stateOf cX5_stateOf 2 (some .int), Cond.fieldLink RX5 68 "AlarmgroveModel" "raised" "I", Cond.fieldLink RX5 13 "AlarmgroveModel" "under" "[I", Cond.methodLink RX5 47 yX5_has, Cond.static yX5_has, Cond.code yX5_has cX5_has 2 (some .boolean), Cond.methodLink RX5 85 yX5_raisesOf, Cond.instanceMethod yX5_raisesOf, Cond.selects RX5 yX5_raisesOf yX5_raisesOf, Cond.code yX5_raisesOf cX5_raisesOf 5 (some .int), Cond.fieldLink RX5 65 "AlarmgroveModel" "events" "I", Cond.fieldLink RX5 31 "AlarmgroveModel" "kind" "[I"]
def wsX5_state_r2 : List Cond := [Cond.fieldLink RX5 34 "AlarmgroveModel" "node" "[I", Cond.fieldLink RX5 37 "AlarmgroveModel" "time" "[I", Cond.fieldLink RX5 62 "AlarmgroveModel" "now" "I"]
def wsX5_state : List Cond := .code yX5_state cX5_state 2 (some .int) :: ((wsX5_state_r1 ++ wsX5_state_r2) ++ wsX50)
def wsX5_nodesThatAre : List Cond := .code yX5_nodesThatAre cX5_nodesThatAre 4 (some .int) :: ([.methodLink RX5 55 yX5_goes, .instanceMethod yX5_goes, .selects RX5 yX5_goes yX5_goes, .initialized RX5, .code yX5_goes cX5_goes 3 (some .boolean), .fieldLink RX5 43 "AlarmgroveModel" "thrown" "I", .methodLink RX5 89 yX5_stateOf, .instanceMethod yX5_stateOf, .selects RX5 yX5_stateOf yX5_stateOf, .code yX5_stateOf cX5_stateOf 2 (some .int), .fieldLink RX5 68 "AlarmgroveModel" "raised" "I", .fieldLink RX5 13 "AlarmgroveModel" "under" "[I", .methodLink RX5 47 yX5_has, .static yX5_has, .code yX5_has cX5_has 2 (some .boolean), .methodLink RX5 85 yX5_raisesOf, .instanceMethod yX5_raisesOf, .selects RX5 yX5_raisesOf yX5_raisesOf, .code yX5_raisesOf cX5_raisesOf 5 (some .int), .fieldLink RX5 65 "AlarmgroveModel" "events" "I", .fieldLink RX5 31 "AlarmgroveModel" "kind" "[I", .fieldLink RX5 34 "AlarmgroveModel" "node" "[I", .fieldLink RX5 37 "AlarmgroveModel" "time" "[I", .fieldLink RX5 62 "AlarmgroveModel" "now" "I"] ++ wsX50)
def wsX5_raises : List Cond := .code yX5_raises cX5_raises 3 (some .int) :: ([.methodLink RX5 51 yX5_isNode, .static yX5_isNode, .initialized RX5, .code yX5_isNode cX5_isNode 1 (some .boolean), .methodLink RX5 55 yX5_goes, .instanceMethod yX5_goes, .selects RX5 yX5_goes yX5_goes, .code yX5_goes cX5_goes 3 (some .boolean), .fieldLink RX5 43 "AlarmgroveModel" "thrown" "I", .methodLink RX5 85 yX5_raisesOf, .instanceMethod yX5_raisesOf, .selects RX5 yX5_raisesOf yX5_raisesOf, .code yX5_raisesOf cX5_raisesOf 5 (some .int), .fieldLink RX5 65 "AlarmgroveModel" "events" "I", .fieldLink RX5 31 "AlarmgroveModel" "kind" "[I", .fieldLink RX5 34 "AlarmgroveModel" "node" "[I", .fieldLink RX5 37 "AlarmgroveModel" "time" "[I", .fieldLink RX5 62 "AlarmgroveModel" "now" "I"] ++ wsX50)
def wsX5_isEvent : List Cond := .code yX5_isEvent cX5_isEvent 2 (some .boolean) :: ([.fieldLink RX5 65 "AlarmgroveModel" "events" "I", .methodLink RX5 55 yX5_goes, .instanceMethod yX5_goes, .selects RX5 yX5_goes yX5_goes, .initialized RX5, .code yX5_goes cX5_goes 3 (some .boolean), .fieldLink RX5 43 "AlarmgroveModel" "thrown" "I"] ++ wsX50)
def wsX5_events : List Cond := .code yX5_events cX5_events 1 (some .int) :: ([.fieldLink RX5 43 "AlarmgroveModel" "thrown" "I", .fieldLink RX5 65 "AlarmgroveModel" "events" "I"] ++ wsX50)
def wsX5_eventKind : List Cond := .code yX5_eventKind cX5_eventKind 2 (some .int) :: ([.fieldLink RX5 31 "AlarmgroveModel" "kind" "[I", .methodLink RX5 92 yX5_isEvent, .instanceMethod yX5_isEvent, .selects RX5 yX5_isEvent yX5_isEvent, .initialized RX5, .code yX5_isEvent cX5_isEvent 2 (some .boolean), .fieldLink RX5 65 "AlarmgroveModel" "events" "I", .methodLink RX5 55 yX5_goes, .instanceMethod yX5_goes, .selects RX5 yX5_goes yX5_goes, .code yX5_goes cX5_goes 3 (some .boolean), .fieldLink RX5 43 "AlarmgroveModel" "thrown" "I"] ++ wsX50)
def wsX5_eventNode : List Cond := .code yX5_eventNode cX5_eventNode 2 (some .int) :: ([.fieldLink RX5 34 "AlarmgroveModel" "node" "[I", .methodLink RX5 92 yX5_isEvent, .instanceMethod yX5_isEvent, .selects RX5 yX5_isEvent yX5_isEvent, .initialized RX5, .code yX5_isEvent cX5_isEvent 2 (some .boolean), .fieldLink RX5 65 "AlarmgroveModel" "events" "I", .methodLink RX5 55 yX5_goes, .instanceMethod yX5_goes, .selects RX5 yX5_goes yX5_goes, .code yX5_goes cX5_goes 3 (some .boolean), .fieldLink RX5 43 "AlarmgroveModel" "thrown" "I"] ++ wsX50)
def wsX5_eventTime : List Cond := .code yX5_eventTime cX5_eventTime 2 (some .int) :: ([.fieldLink RX5 37 "AlarmgroveModel" "time" "[I", .methodLink RX5 92 yX5_isEvent, .instanceMethod yX5_isEvent, .selects RX5 yX5_isEvent yX5_isEvent, .initialized RX5, .code yX5_isEvent cX5_isEvent 2 (some .boolean), .fieldLink RX5 65 "AlarmgroveModel" "events" "I", .methodLink RX5 55 yX5_goes, .instanceMethod yX5_goes, .selects RX5 yX5_goes yX5_goes, .code yX5_goes cX5_goes 3 (some .boolean), .fieldLink RX5 43 "AlarmgroveModel" "thrown" "I"] ++ wsX50)
def wsX5_eventLength : List Cond := .code yX5_eventLength cX5_eventLength 2 (some .int) :: ([.fieldLink RX5 40 "AlarmgroveModel" "length" "[I", .methodLink RX5 92 yX5_isEvent, .instanceMethod yX5_isEvent, .selects RX5 yX5_isEvent yX5_isEvent, .initialized RX5, .code yX5_isEvent cX5_isEvent 2 (some .boolean), .fieldLink RX5 65 "AlarmgroveModel" "events" "I", .methodLink RX5 55 yX5_goes, .instanceMethod yX5_goes, .selects RX5 yX5_goes yX5_goes, .code yX5_goes cX5_goes 3 (some .boolean), .fieldLink RX5 43 "AlarmgroveModel" "thrown" "I"] ++ wsX50)
def wsX5_openTickets : List Cond := .code yX5_openTickets cX5_openTickets 3 (some .int) :: ([.fieldLink RX5 43 "AlarmgroveModel" "thrown" "I", .fieldLink RX5 75 "AlarmgroveModel" "tickets" "I", .fieldLink RX5 25 "AlarmgroveModel" "states" "[I"] ++ wsX50)
def wsX5_ticketOf : List Cond := .code yX5_ticketOf cX5_ticketOf 3 (some .int) :: ([.fieldLink RX5 68 "AlarmgroveModel" "raised" "I", .fieldLink RX5 19 "AlarmgroveModel" "ticket" "[I", .methodLink RX5 51 yX5_isNode, .static yX5_isNode, .initialized RX5, .code yX5_isNode cX5_isNode 1 (some .boolean), .methodLink RX5 55 yX5_goes, .instanceMethod yX5_goes, .selects RX5 yX5_goes yX5_goes, .code yX5_goes cX5_goes 3 (some .boolean), .fieldLink RX5 43 "AlarmgroveModel" "thrown" "I", .methodLink RX5 47 yX5_has, .static yX5_has, .code yX5_has cX5_has 2 (some .boolean)] ++ wsX50)
def wsX5_isTicket : List Cond := .code yX5_isTicket cX5_isTicket 2 (some .boolean) :: ([.fieldLink RX5 75 "AlarmgroveModel" "tickets" "I"] ++ wsX50)
def wsX5_ticketState : List Cond := .code yX5_ticketState cX5_ticketState 2 (some .int) :: ([.fieldLink RX5 43 "AlarmgroveModel" "thrown" "I", .fieldLink RX5 25 "AlarmgroveModel" "states" "[I", .methodLink RX5 95 yX5_isTicket, .instanceMethod yX5_isTicket, .selects RX5 yX5_isTicket yX5_isTicket, .initialized RX5, .code yX5_isTicket cX5_isTicket 2 (some .boolean), .fieldLink RX5 75 "AlarmgroveModel" "tickets" "I"] ++ wsX50)
def wsX5_ticketSize : List Cond := .code yX5_ticketSize cX5_ticketSize 2 (some .int) :: ([.fieldLink RX5 43 "AlarmgroveModel" "thrown" "I", .fieldLink RX5 22 "AlarmgroveModel" "nodes" "[I", .methodLink RX5 95 yX5_isTicket, .instanceMethod yX5_isTicket, .selects RX5 yX5_isTicket yX5_isTicket, .initialized RX5, .code yX5_isTicket cX5_isTicket 2 (some .boolean), .fieldLink RX5 75 "AlarmgroveModel" "tickets" "I", .methodLink RX5 82 yX5_count, .static yX5_count, .code yX5_count cX5_count 3 (some .int)] ++ wsX50)
def wsX5_mergedInto : List Cond := .code yX5_mergedInto cX5_mergedInto 2 (some .int) :: ([.fieldLink RX5 43 "AlarmgroveModel" "thrown" "I", .fieldLink RX5 25 "AlarmgroveModel" "states" "[I", .fieldLink RX5 28 "AlarmgroveModel" "into" "[I", .methodLink RX5 95 yX5_isTicket, .instanceMethod yX5_isTicket, .selects RX5 yX5_isTicket yX5_isTicket, .initialized RX5, .code yX5_isTicket cX5_isTicket 2 (some .boolean), .fieldLink RX5 75 "AlarmgroveModel" "tickets" "I"] ++ wsX50)
def wsX5_plausible : List Cond := .code yX5_plausible cX5_plausible 4 (some .boolean) :: ([.fieldLink RX5 7 "AlarmgroveModel" "needs" "[I", .fieldLink RX5 68 "AlarmgroveModel" "raised" "I", .methodLink RX5 47 yX5_has, .static yX5_has, .initialized RX5, .code yX5_has cX5_has 2 (some .boolean)] ++ wsX50)
def wsX5_isPlausible : List Cond := .code yX5_isPlausible cX5_isPlausible 2 (some .boolean) :: ([.methodLink RX5 51 yX5_isNode, .static yX5_isNode, .initialized RX5, .code yX5_isNode cX5_isNode 1 (some .boolean), .methodLink RX5 55 yX5_goes, .instanceMethod yX5_goes, .selects RX5 yX5_goes yX5_goes, .code yX5_goes cX5_goes 3 (some .boolean), .fieldLink RX5 43 "AlarmgroveModel" "thrown" "I", .methodLink RX5 98 yX5_plausible, .instanceMethod yX5_plausible, .selects RX5 yX5_plausible yX5_plausible, .code yX5_plausible cX5_plausible 4 (some .boolean), .fieldLink RX5 7 "AlarmgroveModel" "needs" "[I", .fieldLink RX5 68 "AlarmgroveModel" "raised" "I", .methodLink RX5 47 yX5_has, .static yX5_has, .code yX5_has cX5_has 2 (some .boolean)] ++ wsX50)
def wsX5_explains : List Cond := .code yX5_explains cX5_explains 4 (some .int) :: ([.fieldLink RX5 13 "AlarmgroveModel" "under" "[I", .methodLink RX5 47 yX5_has, .static yX5_has, .initialized RX5, .code yX5_has cX5_has 2 (some .boolean)] ++ wsX50)
def wsX5_explained : List Cond := .code yX5_explained cX5_explained 5 (some .int) :: ([.fieldLink RX5 13 "AlarmgroveModel" "under" "[I", .methodLink RX5 47 yX5_has, .static yX5_has, .initialized RX5, .code yX5_has cX5_has 2 (some .boolean)] ++ wsX50)
def wsX5_isBetter : List Cond := .code yX5_isBetter cX5_isBetter 5 (some .boolean) :: ([.fieldLink RX5 68 "AlarmgroveModel" "raised" "I", .methodLink RX5 82 yX5_count, .static yX5_count, .initialized RX5, .code yX5_count cX5_count 3 (some .int)] ++ wsX50)
def wsX5_best : List Cond := .code yX5_best cX5_best 4 (some .int) :: ([.fieldLink RX5 68 "AlarmgroveModel" "raised" "I", .methodLink RX5 98 yX5_plausible, .instanceMethod yX5_plausible, .selects RX5 yX5_plausible yX5_plausible, .initialized RX5, .code yX5_plausible cX5_plausible 4 (some .boolean), .fieldLink RX5 7 "AlarmgroveModel" "needs" "[I", .methodLink RX5 47 yX5_has, .static yX5_has, .code yX5_has cX5_has 2 (some .boolean), .methodLink RX5 101 yX5_isBetter, .instanceMethod yX5_isBetter, .selects RX5 yX5_isBetter yX5_isBetter, .code yX5_isBetter cX5_isBetter 5 (some .boolean), .methodLink RX5 82 yX5_count, .static yX5_count, .code yX5_count cX5_count 3 (some .int), .methodLink RX5 104 yX5_explained, .instanceMethod yX5_explained, .selects RX5 yX5_explained yX5_explained, .code yX5_explained cX5_explained 5 (some .int), .fieldLink RX5 13 "AlarmgroveModel" "under" "[I"] ++ wsX50)
def wsX5_causes_r1 : List Cond := [Cond.fieldLink RX5 43 "AlarmgroveModel" "thrown" "I", Cond.methodLink RX5 107 yX5_best, Cond.instanceMethod yX5_best, Cond.selects RX5 yX5_best yX5_best, Cond.initialized RX5, Cond.code yX5_best cX5_best 4 (some .int), Cond.fieldLink RX5 68 "AlarmgroveModel" "raised" "I", Cond.methodLink RX5 98 yX5_plausible, Cond.instanceMethod yX5_plausible, Cond.selects RX5 yX5_plausible yX5_plausible, Cond.code yX5_plausible cX5_plausible 4 (some .boolean), Cond.fieldLink RX5 7 "AlarmgroveModel" "needs" "[I", Cond.methodLink RX5 47 yX5_has, Cond.static yX5_has, Cond.code yX5_has cX5_has 2 (some .boolean), Cond.methodLink RX5 101 yX5_isBetter, Cond.instanceMethod yX5_isBetter, Cond.selects RX5 yX5_isBetter yX5_isBetter, Cond.code yX5_isBetter cX5_isBetter 5 (some .boolean), Cond.methodLink RX5 82 yX5_count, Cond.static yX5_count, Cond.code yX5_count cX5_count 3 (some .int), Cond.methodLink RX5 104 yX5_explained, Cond.instanceMethod yX5_explained]
def wsX5_causes_r2 : List Cond := [Cond.selects RX5 yX5_explained yX5_explained, Cond.code yX5_explained cX5_explained 5 (some .int), Cond.fieldLink RX5 13 "AlarmgroveModel" "under" "[I"]
def wsX5_causes : List Cond := .code yX5_causes cX5_causes 1 (some .int) :: ((wsX5_causes_r1 ++ wsX5_causes_r2) ++ wsX50)
def wsX5_cause_r1 : List Cond := [Cond.methodLink RX5 107 yX5_best, Cond.instanceMethod yX5_best, Cond.selects RX5 yX5_best yX5_best, Cond.initialized RX5, Cond.code yX5_best cX5_best 4 (some .int), Cond.fieldLink RX5 68 "AlarmgroveModel" "raised" "I", Cond.methodLink RX5 98 yX5_plausible, Cond.instanceMethod yX5_plausible, Cond.selects RX5 yX5_plausible yX5_plausible, Cond.code yX5_plausible cX5_plausible 4 (some .boolean), Cond.fieldLink RX5 7 "AlarmgroveModel" "needs" "[I", Cond.methodLink RX5 47 yX5_has, Cond.static yX5_has, Cond.code yX5_has cX5_has 2 (some .boolean), Cond.methodLink RX5 101 yX5_isBetter, Cond.instanceMethod yX5_isBetter, Cond.selects RX5 yX5_isBetter yX5_isBetter, Cond.code yX5_isBetter cX5_isBetter 5 (some .boolean), Cond.methodLink RX5 82 yX5_count, Cond.static yX5_count, Cond.code yX5_count cX5_count 3 (some .int), Cond.methodLink RX5 104 yX5_explained, Cond.instanceMethod yX5_explained, Cond.selects RX5 yX5_explained yX5_explained]
def wsX5_cause_r2 : List Cond := [Cond.code yX5_explained cX5_explained 5 (some .int), Cond.fieldLink RX5 13 "AlarmgroveModel" "under" "[I", Cond.methodLink RX5 55 yX5_goes, Cond.instanceMethod yX5_goes, Cond.selects RX5 yX5_goes yX5_goes, Cond.code yX5_goes cX5_goes 3 (some .boolean), Cond.fieldLink RX5 43 "AlarmgroveModel" "thrown" "I", Cond.methodLink RX5 111 yX5_at, Cond.static yX5_at, Cond.code yX5_at cX5_at 5 (some .int)]
def wsX5_cause : List Cond := .code yX5_cause cX5_cause 3 (some .int) :: ((wsX5_cause_r1 ++ wsX5_cause_r2) ++ wsX50)
def wsX5_causeByTrying_r1 : List Cond := [Cond.methodLink RX5 114 yX5_cause, Cond.instanceMethod yX5_cause, Cond.selects RX5 yX5_cause yX5_cause, Cond.initialized RX5, Cond.code yX5_cause cX5_cause 3 (some .int), Cond.methodLink RX5 107 yX5_best, Cond.instanceMethod yX5_best, Cond.selects RX5 yX5_best yX5_best, Cond.code yX5_best cX5_best 4 (some .int), Cond.fieldLink RX5 68 "AlarmgroveModel" "raised" "I", Cond.methodLink RX5 98 yX5_plausible, Cond.instanceMethod yX5_plausible, Cond.selects RX5 yX5_plausible yX5_plausible, Cond.code yX5_plausible cX5_plausible 4 (some .boolean), Cond.fieldLink RX5 7 "AlarmgroveModel" "needs" "[I", Cond.methodLink RX5 47 yX5_has, Cond.static yX5_has, Cond.code yX5_has cX5_has 2 (some .boolean), Cond.methodLink RX5 101 yX5_isBetter, Cond.instanceMethod yX5_isBetter, Cond.selects RX5 yX5_isBetter yX5_isBetter, Cond.code yX5_isBetter cX5_isBetter 5 (some .boolean), Cond.methodLink RX5 82 yX5_count, Cond.static yX5_count]
def wsX5_causeByTrying_r2 : List Cond := [Cond.code yX5_count cX5_count 3 (some .int), Cond.methodLink RX5 104 yX5_explained, Cond.instanceMethod yX5_explained, Cond.selects RX5 yX5_explained yX5_explained, Cond.code yX5_explained cX5_explained 5 (some .int), Cond.fieldLink RX5 13 "AlarmgroveModel" "under" "[I", Cond.methodLink RX5 55 yX5_goes, Cond.instanceMethod yX5_goes, Cond.selects RX5 yX5_goes yX5_goes, Cond.code yX5_goes cX5_goes 3 (some .boolean), Cond.fieldLink RX5 43 "AlarmgroveModel" "thrown" "I", Cond.methodLink RX5 111 yX5_at, Cond.static yX5_at, Cond.code yX5_at cX5_at 5 (some .int)]
def wsX5_causeByTrying : List Cond := .code yX5_causeByTrying cX5_causeByTrying 2 (some .int) :: ((wsX5_causeByTrying_r1 ++ wsX5_causeByTrying_r2) ++ wsX50)
def wsX5_joins : List Cond := .code yX5_joins cX5_joins 7 (some .int) :: ([.fieldLink RX5 68 "AlarmgroveModel" "raised" "I", .methodLink RX5 98 yX5_plausible, .instanceMethod yX5_plausible, .selects RX5 yX5_plausible yX5_plausible, .initialized RX5, .code yX5_plausible cX5_plausible 4 (some .boolean), .fieldLink RX5 7 "AlarmgroveModel" "needs" "[I", .methodLink RX5 47 yX5_has, .static yX5_has, .code yX5_has cX5_has 2 (some .boolean), .methodLink RX5 117 yX5_explains, .instanceMethod yX5_explains, .selects RX5 yX5_explains yX5_explains, .code yX5_explains cX5_explains 4 (some .int), .fieldLink RX5 13 "AlarmgroveModel" "under" "[I", .methodLink RX5 82 yX5_count, .static yX5_count, .code yX5_count cX5_count 3 (some .int)] ++ wsX50)
def wsX5_greedyCauses : List Cond := .code yX5_greedyCauses cX5_greedyCauses 3 (some .int) :: ([.fieldLink RX5 43 "AlarmgroveModel" "thrown" "I", .fieldLink RX5 68 "AlarmgroveModel" "raised" "I", .methodLink RX5 120 yX5_joins, .instanceMethod yX5_joins, .selects RX5 yX5_joins yX5_joins, .initialized RX5, .code yX5_joins cX5_joins 7 (some .int), .methodLink RX5 98 yX5_plausible, .instanceMethod yX5_plausible, .selects RX5 yX5_plausible yX5_plausible, .code yX5_plausible cX5_plausible 4 (some .boolean), .fieldLink RX5 7 "AlarmgroveModel" "needs" "[I", .methodLink RX5 47 yX5_has, .static yX5_has, .code yX5_has cX5_has 2 (some .boolean), .methodLink RX5 117 yX5_explains, .instanceMethod yX5_explains, .selects RX5 yX5_explains yX5_explains, .code yX5_explains cX5_explains 4 (some .int), .fieldLink RX5 13 "AlarmgroveModel" "under" "[I", .methodLink RX5 82 yX5_count, .static yX5_count, .code yX5_count cX5_count 3 (some .int)] ++ wsX50)
def wsX5_greedyCause_r1 : List Cond := [Cond.fieldLink RX5 68 "AlarmgroveModel" "raised" "I", Cond.methodLink RX5 120 yX5_joins, Cond.instanceMethod yX5_joins, Cond.selects RX5 yX5_joins yX5_joins, Cond.initialized RX5, Cond.code yX5_joins cX5_joins 7 (some .int), Cond.methodLink RX5 98 yX5_plausible, Cond.instanceMethod yX5_plausible, Cond.selects RX5 yX5_plausible yX5_plausible, Cond.code yX5_plausible cX5_plausible 4 (some .boolean), Cond.fieldLink RX5 7 "AlarmgroveModel" "needs" "[I", Cond.methodLink RX5 47 yX5_has, Cond.static yX5_has, Cond.code yX5_has cX5_has 2 (some .boolean), Cond.methodLink RX5 117 yX5_explains, Cond.instanceMethod yX5_explains, Cond.selects RX5 yX5_explains yX5_explains, Cond.code yX5_explains cX5_explains 4 (some .int), Cond.fieldLink RX5 13 "AlarmgroveModel" "under" "[I", Cond.methodLink RX5 82 yX5_count, Cond.static yX5_count, Cond.code yX5_count cX5_count 3 (some .int), Cond.methodLink RX5 55 yX5_goes, Cond.instanceMethod yX5_goes]
def wsX5_greedyCause_r2 : List Cond := [Cond.selects RX5 yX5_goes yX5_goes, Cond.code yX5_goes cX5_goes 3 (some .boolean), Cond.fieldLink RX5 43 "AlarmgroveModel" "thrown" "I"]
def wsX5_greedyCause : List Cond := .code yX5_greedyCause cX5_greedyCause 5 (some .int) :: ((wsX5_greedyCause_r1 ++ wsX5_greedyCause_r2) ++ wsX50)
def wsX5_causeOf_r1 : List Cond := [Cond.fieldLink RX5 68 "AlarmgroveModel" "raised" "I", Cond.methodLink RX5 51 yX5_isNode, Cond.static yX5_isNode, Cond.initialized RX5, Cond.code yX5_isNode cX5_isNode 1 (some .boolean), Cond.methodLink RX5 55 yX5_goes, Cond.instanceMethod yX5_goes, Cond.selects RX5 yX5_goes yX5_goes, Cond.code yX5_goes cX5_goes 3 (some .boolean), Cond.fieldLink RX5 43 "AlarmgroveModel" "thrown" "I", Cond.methodLink RX5 107 yX5_best, Cond.instanceMethod yX5_best, Cond.selects RX5 yX5_best yX5_best, Cond.code yX5_best cX5_best 4 (some .int), Cond.methodLink RX5 98 yX5_plausible, Cond.instanceMethod yX5_plausible, Cond.selects RX5 yX5_plausible yX5_plausible, Cond.code yX5_plausible cX5_plausible 4 (some .boolean), Cond.fieldLink RX5 7 "AlarmgroveModel" "needs" "[I", Cond.methodLink RX5 47 yX5_has, Cond.static yX5_has, Cond.code yX5_has cX5_has 2 (some .boolean), Cond.methodLink RX5 101 yX5_isBetter, Cond.instanceMethod yX5_isBetter]
def wsX5_causeOf_r2 : List Cond := [Cond.selects RX5 yX5_isBetter yX5_isBetter, Cond.code yX5_isBetter cX5_isBetter 5 (some .boolean), Cond.methodLink RX5 82 yX5_count, Cond.static yX5_count, Cond.code yX5_count cX5_count 3 (some .int), Cond.methodLink RX5 104 yX5_explained, Cond.instanceMethod yX5_explained, Cond.selects RX5 yX5_explained yX5_explained, Cond.code yX5_explained cX5_explained 5 (some .int), Cond.fieldLink RX5 13 "AlarmgroveModel" "under" "[I", Cond.methodLink RX5 117 yX5_explains, Cond.instanceMethod yX5_explains, Cond.selects RX5 yX5_explains yX5_explains, Cond.code yX5_explains cX5_explains 4 (some .int)]
def wsX5_causeOf : List Cond := .code yX5_causeOf cX5_causeOf 5 (some .int) :: ((wsX5_causeOf_r1 ++ wsX5_causeOf_r2) ++ wsX50)
def wsJ9_min_7cf53 : List Cond := .code yJ9_min_7cf53 cJ9_min_7cf53 2 (some .int) :: ([])
def wsL_need_r1 : List Cond := [Cond.classLink RL 13 "java/lang/IndexOutOfBoundsException", Cond.classLink RL 15 "java/lang/IllegalArgumentException", Cond.methodLink RL 7 yX4_need, Cond.instanceMethod yX4_need, Cond.selects RX4 yX4_need yX4_need, Cond.initialized RX4, Cond.code yX4_need cX4_need 3 (some .boolean), Cond.classLink RX4 49 "java/lang/IllegalArgumentException", Cond.initialized "java/lang/IllegalArgumentException", Cond.fieldLink RX4 10 "Alarmgrove" "graph" "LAlarmgrove$Graph;", Cond.methodLink RX4 37 yX4_checkNode, Cond.static yX4_checkNode, Cond.code yX4_checkNode cX4_checkNode 1 none, Cond.classLink RX4 166 "java/lang/IndexOutOfBoundsException", Cond.initialized "java/lang/IndexOutOfBoundsException", Cond.methodLink RX4 41 yX1_below, Cond.instanceMethod yX1_below, Cond.selects RX1 yX1_below yX1_below, Cond.initialized RX1, Cond.code yX1_below cX1_below 2 (some .int), Cond.fieldLink RX1 18 "Alarmgrove$Graph" "below" "[I", Cond.methodLink RX4 45 yX4_has, Cond.static yX4_has, Cond.code yX4_has cX4_has 2 (some .boolean)]
def wsL_need_r2 : List Cond := [Cond.methodLink RX4 82 yX4_only, Cond.static yX4_only, Cond.code yX4_only cX4_only 1 (some .int), Cond.methodLink RX4 56 yX1_link, Cond.instanceMethod yX1_link, Cond.selects RX1 yX1_link yX1_link, Cond.code yX1_link cX1_link 3 (some .boolean), Cond.fieldLink RX1 9 "Alarmgrove$Graph" "needed" "[I", Cond.fieldLink RX1 15 "Alarmgrove$Graph" "users" "[I", Cond.methodLink RX1 32 yX1_followAll, Cond.instanceMethod yX1_followAll, Cond.selects RX1 yX1_followAll yX1_followAll, Cond.code yX1_followAll cX1_followAll 2 none, Cond.fieldLink RX1 21 "Alarmgrove$Graph" "above" "[I", Cond.methodLink RX1 39 yX1_follow, Cond.static yX1_follow, Cond.code yX1_follow cX1_follow 5 (some .int), Cond.methodLink RX1 35 yX1_step, Cond.static yX1_step, Cond.code yX1_step cX1_step 4 (some .int)]
def wsL_need : List Cond := .codeWith yL_need cL_need 5 (some .int) [(0, 17, 20, 13), (0, 17, 24, 15)] :: ((wsL_need_r1 ++ wsL_need_r2) ++ wsX40 ++ wsX10 ++ (vx_atS RX4 53 "java/lang/IllegalArgumentException" ["java/lang/RuntimeException", "java/lang/Exception"]).filter goodWord ++ (vx_atS RX4 170 "java/lang/IndexOutOfBoundsException" ["java/lang/RuntimeException", "java/lang/Exception"]).filter goodWord)
def wsL_release_r1 : List Cond := [Cond.classLink RL 13 "java/lang/IndexOutOfBoundsException", Cond.methodLink RL 17 yX4_release, Cond.instanceMethod yX4_release, Cond.selects RX4 yX4_release yX4_release, Cond.initialized RX4, Cond.code yX4_release cX4_release 3 (some .boolean), Cond.fieldLink RX4 10 "Alarmgrove" "graph" "LAlarmgrove$Graph;", Cond.methodLink RX4 37 yX4_checkNode, Cond.static yX4_checkNode, Cond.code yX4_checkNode cX4_checkNode 1 none, Cond.classLink RX4 166 "java/lang/IndexOutOfBoundsException", Cond.initialized "java/lang/IndexOutOfBoundsException", Cond.methodLink RX4 59 yX1_unlink, Cond.instanceMethod yX1_unlink, Cond.selects RX1 yX1_unlink yX1_unlink, Cond.initialized RX1, Cond.code yX1_unlink cX1_unlink 3 (some .boolean), Cond.fieldLink RX1 9 "Alarmgrove$Graph" "needed" "[I", Cond.fieldLink RX1 15 "Alarmgrove$Graph" "users" "[I", Cond.static yX4_has, Cond.code yX4_has cX4_has 2 (some .boolean), Cond.methodLink RX4 82 yX4_only, Cond.static yX4_only, Cond.code yX4_only cX4_only 1 (some .int)]
def wsL_release_r2 : List Cond := [Cond.methodLink RX1 32 yX1_followAll, Cond.instanceMethod yX1_followAll, Cond.selects RX1 yX1_followAll yX1_followAll, Cond.code yX1_followAll cX1_followAll 2 none, Cond.fieldLink RX1 18 "Alarmgrove$Graph" "below" "[I", Cond.fieldLink RX1 21 "Alarmgrove$Graph" "above" "[I", Cond.methodLink RX1 39 yX1_follow, Cond.static yX1_follow, Cond.code yX1_follow cX1_follow 5 (some .int), Cond.methodLink RX1 35 yX1_step, Cond.static yX1_step, Cond.code yX1_step cX1_step 4 (some .int)]
def wsL_release : List Cond := .codeWith yL_release cL_release 5 (some .int) [(0, 17, 20, 13)] :: ((wsL_release_r1 ++ wsL_release_r2) ++ wsX40 ++ wsX10 ++ (vx_atS RX4 170 "java/lang/IndexOutOfBoundsException" ["java/lang/RuntimeException", "java/lang/Exception"]).filter goodWord)
def wsL_needs : List Cond := .codeWith yL_needs cL_needs 5 (some .int) [(0, 17, 20, 13)] :: ([.classLink RL 13 "java/lang/IndexOutOfBoundsException", .methodLink RL 20 yX4_needs, .instanceMethod yX4_needs, .selects RX4 yX4_needs yX4_needs, .initialized RX4, .code yX4_needs cX4_needs 3 (some .boolean), .fieldLink RX4 10 "Alarmgrove" "graph" "LAlarmgrove$Graph;", .methodLink RX4 37 yX4_checkNode, .static yX4_checkNode, .code yX4_checkNode cX4_checkNode 1 none, .classLink RX4 166 "java/lang/IndexOutOfBoundsException", .initialized "java/lang/IndexOutOfBoundsException", .methodLink RX4 62 yX1_needed, .instanceMethod yX1_needed, .selects RX1 yX1_needed yX1_needed, .initialized RX1, .code yX1_needed cX1_needed 2 (some .int), .fieldLink RX1 9 "Alarmgrove$Graph" "needed" "[I", .methodLink RX4 45 yX4_has, .static yX4_has, .code yX4_has cX4_has 2 (some .boolean), .methodLink RX4 82 yX4_only, .static yX4_only, .code yX4_only cX4_only 1 (some .int)] ++ wsX40 ++ wsX10 ++ (vx_atS RX4 170 "java/lang/IndexOutOfBoundsException" ["java/lang/RuntimeException", "java/lang/Exception"]).filter goodWord)
def wsL_dependsOn : List Cond := .codeWith yL_dependsOn cL_dependsOn 5 (some .int) [(0, 17, 20, 13)] :: ([.classLink RL 13 "java/lang/IndexOutOfBoundsException", .methodLink RL 23 yX4_dependsOn, .instanceMethod yX4_dependsOn, .selects RX4 yX4_dependsOn yX4_dependsOn, .initialized RX4, .code yX4_dependsOn cX4_dependsOn 3 (some .boolean), .fieldLink RX4 10 "Alarmgrove" "graph" "LAlarmgrove$Graph;", .methodLink RX4 37 yX4_checkNode, .static yX4_checkNode, .code yX4_checkNode cX4_checkNode 1 none, .classLink RX4 166 "java/lang/IndexOutOfBoundsException", .initialized "java/lang/IndexOutOfBoundsException", .methodLink RX4 41 yX1_below, .instanceMethod yX1_below, .selects RX1 yX1_below yX1_below, .initialized RX1, .code yX1_below cX1_below 2 (some .int), .fieldLink RX1 18 "Alarmgrove$Graph" "below" "[I", .methodLink RX4 45 yX4_has, .static yX4_has, .code yX4_has cX4_has 2 (some .boolean), .methodLink RX4 82 yX4_only, .static yX4_only, .code yX4_only cX4_only 1 (some .int)] ++ wsX40 ++ wsX10 ++ (vx_atS RX4 170 "java/lang/IndexOutOfBoundsException" ["java/lang/RuntimeException", "java/lang/Exception"]).filter goodWord)
def wsL_height_r1 : List Cond := [Cond.classLink RL 13 "java/lang/IndexOutOfBoundsException", Cond.methodLink RL 26 yX4_height, Cond.instanceMethod yX4_height, Cond.selects RX4 yX4_height yX4_height, Cond.initialized RX4, Cond.code yX4_height cX4_height 2 (some .int), Cond.fieldLink RX4 10 "Alarmgrove" "graph" "LAlarmgrove$Graph;", Cond.methodLink RX4 37 yX4_checkNode, Cond.static yX4_checkNode, Cond.code yX4_checkNode cX4_checkNode 1 none, Cond.classLink RX4 166 "java/lang/IndexOutOfBoundsException", Cond.initialized "java/lang/IndexOutOfBoundsException", Cond.methodLink RX4 65 yX1_longestWayDown, Cond.instanceMethod yX1_longestWayDown, Cond.selects RX1 yX1_longestWayDown yX1_longestWayDown, Cond.initialized RX1, Cond.code yX1_longestWayDown cX1_longestWayDown 4 (some .int), Cond.fieldLink RX1 9 "Alarmgrove$Graph" "needed" "[I", Cond.static yX4_only, Cond.code yX4_only cX4_only 1 (some .int), Cond.methodLink RX1 35 yX1_step, Cond.static yX1_step, Cond.code yX1_step cX1_step 4 (some .int), Cond.static yX4_has]
def wsL_height_r2 : List Cond := [Cond.code yX4_has cX4_has 2 (some .boolean), Cond.methodLink RX4 82 yX4_only]
def wsL_height : List Cond := .codeWith yL_height cL_height 4 (some .int) [(0, 9, 12, 13)] :: ((wsL_height_r1 ++ wsL_height_r2) ++ wsX40 ++ wsX10 ++ (vx_atS RX4 170 "java/lang/IndexOutOfBoundsException" ["java/lang/RuntimeException", "java/lang/Exception"]).filter goodWord)
def wsL_tick : List Cond := .codeWith yL_tick cL_tick 4 (some .int) [(0, 9, 12, 15)] :: ([.classLink RL 15 "java/lang/IllegalArgumentException", .methodLink RL 30 yX4_tick, .instanceMethod yX4_tick, .selects RX4 yX4_tick yX4_tick, .initialized RX4, .code yX4_tick cX4_tick 2 (some .int), .fieldLink RX4 34 "Alarmgrove" "time" "I", .methodLink RX4 68 yX4_checkTicks, .static yX4_checkTicks, .code yX4_checkTicks cX4_checkTicks 2 none, .classLink RX4 49 "java/lang/IllegalArgumentException", .initialized "java/lang/IllegalArgumentException"] ++ wsX40 ++ (vx_atS RX4 53 "java/lang/IllegalArgumentException" ["java/lang/RuntimeException", "java/lang/Exception"]).filter goodWord)
def wsL_raise_r1 : List Cond := [Cond.classLink RL 13 "java/lang/IndexOutOfBoundsException", Cond.classLink RL 36 "java/lang/IllegalStateException", Cond.methodLink RL 33 yX4_raise, Cond.instanceMethod yX4_raise, Cond.selects RX4 yX4_raise yX4_raise, Cond.initialized RX4, Cond.code yX4_raise cX4_raise 3 (some .int), Cond.fieldLink RX4 30 "Alarmgrove" "raised" "I", Cond.fieldLink RX4 19 "Alarmgrove" "log" "LAlarmgrove$Log;", Cond.fieldLink RX4 34 "Alarmgrove" "time" "I", Cond.fieldLink RX4 10 "Alarmgrove" "graph" "LAlarmgrove$Graph;", Cond.fieldLink RX4 26 "Alarmgrove" "tickets" "LAlarmgrove$Tickets;", Cond.methodLink RX4 37 yX4_checkNode, Cond.static yX4_checkNode, Cond.code yX4_checkNode cX4_checkNode 1 none, Cond.classLink RX4 166 "java/lang/IndexOutOfBoundsException", Cond.initialized "java/lang/IndexOutOfBoundsException", Cond.methodLink RX4 45 yX4_has, Cond.static yX4_has, Cond.code yX4_has cX4_has 2 (some .boolean), Cond.methodLink RX4 82 yX4_only, Cond.static yX4_only, Cond.code yX4_only cX4_only 1 (some .int), Cond.methodLink RX4 72 yX4_checkChange]
def wsL_raise_r2 : List Cond := [Cond.instanceMethod yX4_checkChange, Cond.selects RX4 yX4_checkChange yX4_checkChange, Cond.code yX4_checkChange cX4_checkChange 2 none, Cond.classLink RX4 188 "java/lang/IllegalStateException", Cond.initialized "java/lang/IllegalStateException", Cond.methodLink RX4 184 yX2_isFull, Cond.instanceMethod yX2_isFull, Cond.selects RX2 yX2_isFull yX2_isFull, Cond.initialized RX2, Cond.code yX2_isFull cX2_isFull 1 (some .boolean), Cond.fieldLink RX2 27 "Alarmgrove$Log" "count" "I", Cond.methodLink RX4 76 yX2_addRaise, Cond.instanceMethod yX2_addRaise, Cond.selects RX2 yX2_addRaise yX2_addRaise, Cond.code yX2_addRaise cX2_addRaise 3 none, Cond.fieldLink RX2 24 "Alarmgrove$Log" "raisedAt" "[I", Cond.methodLink RX2 31 yX2_add, Cond.instanceMethod yX2_add, Cond.selects RX2 yX2_add yX2_add, Cond.code yX2_add cX2_add 5 none, Cond.fieldLink RX2 9 "Alarmgrove$Log" "kinds" "[I", Cond.fieldLink RX2 15 "Alarmgrove$Log" "nodes" "[I", Cond.fieldLink RX2 18 "Alarmgrove$Log" "times" "[I", Cond.fieldLink RX2 21 "Alarmgrove$Log" "lengths" "[I"]
def wsL_raise_r3 : List Cond := [Cond.methodLink RX4 41 yX1_below, Cond.instanceMethod yX1_below, Cond.selects RX1 yX1_below yX1_below, Cond.initialized RX1, Cond.code yX1_below cX1_below 2 (some .int), Cond.fieldLink RX1 18 "Alarmgrove$Graph" "below" "[I", Cond.methodLink RX4 79 yX1_above, Cond.instanceMethod yX1_above, Cond.selects RX1 yX1_above yX1_above, Cond.code yX1_above cX1_above 2 (some .int), Cond.fieldLink RX1 21 "Alarmgrove$Graph" "above" "[I", Cond.methodLink RX4 85 yX3_join, Cond.instanceMethod yX3_join, Cond.selects RX3 yX3_join yX3_join, Cond.initialized RX3, Cond.code yX3_join cX3_join 4 (some .int), Cond.fieldLink RX3 9 "Alarmgrove$Tickets" "numbers" "[I", Cond.fieldLink RX3 15 "Alarmgrove$Tickets" "sizes" "[I", Cond.methodLink RX3 33 yX3_openNew, Cond.instanceMethod yX3_openNew, Cond.selects RX3 yX3_openNew yX3_openNew, Cond.code yX3_openNew cX3_openNew 1 (some .int), Cond.fieldLink RX3 21 "Alarmgrove$Tickets" "newest" "I", Cond.fieldLink RX3 18 "Alarmgrove$Tickets" "targets" "[I"]
def wsL_raise_r4 : List Cond := [Cond.methodLink RX3 37 yX3_unite, Cond.instanceMethod yX3_unite, Cond.selects RX3 yX3_unite yX3_unite, Cond.code yX3_unite cX3_unite 4 (some .int), Cond.methodLink RX3 44 Lib.Math.min.name, Cond.static Lib.Math.min.name, Cond.initialized "java/lang/Math", Cond.code Lib.Math.min.name Lib.Math.min.code 2 (some .int), Cond.methodLink RX3 50 yX3_merge, Cond.instanceMethod yX3_merge, Cond.selects RX3 yX3_merge yX3_merge, Cond.code yX3_merge cX3_merge 4 none]
def wsL_raise : List Cond := .codeWith yL_raise cL_raise 4 (some .int) [(0, 9, 12, 13), (0, 9, 15, 36)] :: ((wsL_raise_r1 ++ (wsL_raise_r2 ++ (wsL_raise_r3 ++ wsL_raise_r4))) ++ wsX40 ++ wsX20 ++ wsX10 ++ wsX30 ++ (vx_atS RX4 170 "java/lang/IndexOutOfBoundsException" ["java/lang/RuntimeException", "java/lang/Exception"]).filter goodWord ++ (vx_atS RX4 192 "java/lang/IllegalStateException" ["java/lang/RuntimeException", "java/lang/Exception"]).filter goodWord)
def wsL_clear_r1 : List Cond := [Cond.classLink RL 13 "java/lang/IndexOutOfBoundsException", Cond.classLink RL 36 "java/lang/IllegalStateException", Cond.methodLink RL 38 yX4_clear, Cond.instanceMethod yX4_clear, Cond.selects RX4 yX4_clear yX4_clear, Cond.initialized RX4, Cond.code yX4_clear cX4_clear 2 (some .int), Cond.fieldLink RX4 30 "Alarmgrove" "raised" "I", Cond.fieldLink RX4 19 "Alarmgrove" "log" "LAlarmgrove$Log;", Cond.fieldLink RX4 34 "Alarmgrove" "time" "I", Cond.fieldLink RX4 26 "Alarmgrove" "tickets" "LAlarmgrove$Tickets;", Cond.methodLink RX4 37 yX4_checkNode, Cond.static yX4_checkNode, Cond.code yX4_checkNode cX4_checkNode 1 none, Cond.classLink RX4 166 "java/lang/IndexOutOfBoundsException", Cond.initialized "java/lang/IndexOutOfBoundsException", Cond.methodLink RX4 45 yX4_has, Cond.static yX4_has, Cond.code yX4_has cX4_has 2 (some .boolean), Cond.methodLink RX4 82 yX4_only, Cond.static yX4_only, Cond.code yX4_only cX4_only 1 (some .int), Cond.methodLink RX4 72 yX4_checkChange, Cond.instanceMethod yX4_checkChange]
def wsL_clear_r2 : List Cond := [Cond.selects RX4 yX4_checkChange yX4_checkChange, Cond.code yX4_checkChange cX4_checkChange 2 none, Cond.classLink RX4 188 "java/lang/IllegalStateException", Cond.initialized "java/lang/IllegalStateException", Cond.methodLink RX4 184 yX2_isFull, Cond.instanceMethod yX2_isFull, Cond.selects RX2 yX2_isFull yX2_isFull, Cond.initialized RX2, Cond.code yX2_isFull cX2_isFull 1 (some .boolean), Cond.fieldLink RX2 27 "Alarmgrove$Log" "count" "I", Cond.methodLink RX4 89 yX2_addClear, Cond.instanceMethod yX2_addClear, Cond.selects RX2 yX2_addClear yX2_addClear, Cond.code yX2_addClear cX2_addClear 3 none, Cond.fieldLink RX2 24 "Alarmgrove$Log" "raisedAt" "[I", Cond.methodLink RX2 31 yX2_add, Cond.instanceMethod yX2_add, Cond.selects RX2 yX2_add yX2_add, Cond.code yX2_add cX2_add 5 none, Cond.fieldLink RX2 9 "Alarmgrove$Log" "kinds" "[I", Cond.fieldLink RX2 15 "Alarmgrove$Log" "nodes" "[I", Cond.fieldLink RX2 18 "Alarmgrove$Log" "times" "[I", Cond.fieldLink RX2 21 "Alarmgrove$Log" "lengths" "[I", Cond.methodLink RX4 92 yX3_leave]
def wsL_clear_r3 : List Cond := [Cond.instanceMethod yX3_leave, Cond.selects RX3 yX3_leave yX3_leave, Cond.initialized RX3, Cond.code yX3_leave cX3_leave 3 (some .int), Cond.fieldLink RX3 9 "Alarmgrove$Tickets" "numbers" "[I", Cond.fieldLink RX3 15 "Alarmgrove$Tickets" "sizes" "[I"]
def wsL_clear : List Cond := .codeWith yL_clear cL_clear 4 (some .int) [(0, 9, 12, 13), (0, 9, 15, 36)] :: ((wsL_clear_r1 ++ (wsL_clear_r2 ++ wsL_clear_r3)) ++ wsX40 ++ wsX20 ++ wsX30 ++ (vx_atS RX4 170 "java/lang/IndexOutOfBoundsException" ["java/lang/RuntimeException", "java/lang/Exception"]).filter goodWord ++ (vx_atS RX4 192 "java/lang/IllegalStateException" ["java/lang/RuntimeException", "java/lang/Exception"]).filter goodWord)
def wsL_state_r1 : List Cond := [Cond.classLink RL 13 "java/lang/IndexOutOfBoundsException", Cond.methodLink RL 41 yX4_state, Cond.instanceMethod yX4_state, Cond.selects RX4 yX4_state yX4_state, Cond.initialized RX4, Cond.code yX4_state cX4_state 2 (some .int), Cond.methodLink RX4 37 yX4_checkNode, Cond.static yX4_checkNode, Cond.code yX4_checkNode cX4_checkNode 1 none, Cond.classLink RX4 166 "java/lang/IndexOutOfBoundsException", Cond.initialized "java/lang/IndexOutOfBoundsException", Cond.methodLink RX4 95 yX4_stateNow, Cond.instanceMethod yX4_stateNow, Cond.selects RX4 yX4_stateNow yX4_stateNow, Cond.code yX4_stateNow cX4_stateNow 2 (some .int), Cond.fieldLink RX4 30 "Alarmgrove" "raised" "I", Cond.fieldLink RX4 19 "Alarmgrove" "log" "LAlarmgrove$Log;", Cond.fieldLink RX4 34 "Alarmgrove" "time" "I", Cond.fieldLink RX4 10 "Alarmgrove" "graph" "LAlarmgrove$Graph;", Cond.methodLink RX4 45 yX4_has, Cond.static yX4_has, Cond.code yX4_has cX4_has 2 (some .boolean), Cond.methodLink RX4 82 yX4_only, Cond.static yX4_only]
def wsL_state_r2 : List Cond := [Cond.code yX4_only cX4_only 1 (some .int), Cond.methodLink RX4 100 yX2_raisesAfter, Cond.instanceMethod yX2_raisesAfter, Cond.selects RX2 yX2_raisesAfter yX2_raisesAfter, Cond.initialized RX2, Cond.code yX2_raisesAfter cX2_raisesAfter 5 (some .int), Cond.fieldLink RX2 27 "Alarmgrove$Log" "count" "I", Cond.fieldLink RX2 9 "Alarmgrove$Log" "kinds" "[I", Cond.fieldLink RX2 15 "Alarmgrove$Log" "nodes" "[I", Cond.fieldLink RX2 18 "Alarmgrove$Log" "times" "[I", Cond.methodLink RX4 41 yX1_below, Cond.instanceMethod yX1_below, Cond.selects RX1 yX1_below yX1_below, Cond.initialized RX1, Cond.code yX1_below cX1_below 2 (some .int), Cond.fieldLink RX1 18 "Alarmgrove$Graph" "below" "[I"]
def wsL_state : List Cond := .codeWith yL_state cL_state 4 (some .int) [(0, 9, 12, 13)] :: ((wsL_state_r1 ++ wsL_state_r2) ++ wsX40 ++ wsX20 ++ wsX10 ++ (vx_atS RX4 170 "java/lang/IndexOutOfBoundsException" ["java/lang/RuntimeException", "java/lang/Exception"]).filter goodWord)
def wsL_nodesThatAre_r1 : List Cond := [Cond.classLink RL 15 "java/lang/IllegalArgumentException", Cond.methodLink RL 44 yX4_nodesThatAre, Cond.instanceMethod yX4_nodesThatAre, Cond.selects RX4 yX4_nodesThatAre yX4_nodesThatAre, Cond.initialized RX4, Cond.code yX4_nodesThatAre cX4_nodesThatAre 4 (some .int), Cond.classLink RX4 49 "java/lang/IllegalArgumentException", Cond.initialized "java/lang/IllegalArgumentException", Cond.methodLink RX4 95 yX4_stateNow, Cond.instanceMethod yX4_stateNow, Cond.selects RX4 yX4_stateNow yX4_stateNow, Cond.code yX4_stateNow cX4_stateNow 2 (some .int), Cond.fieldLink RX4 30 "Alarmgrove" "raised" "I", Cond.fieldLink RX4 19 "Alarmgrove" "log" "LAlarmgrove$Log;", Cond.fieldLink RX4 34 "Alarmgrove" "time" "I", Cond.fieldLink RX4 10 "Alarmgrove" "graph" "LAlarmgrove$Graph;", Cond.methodLink RX4 45 yX4_has, Cond.static yX4_has, Cond.code yX4_has cX4_has 2 (some .boolean), Cond.methodLink RX4 82 yX4_only, Cond.static yX4_only, Cond.code yX4_only cX4_only 1 (some .int), Cond.methodLink RX4 100 yX2_raisesAfter, Cond.instanceMethod yX2_raisesAfter]
def wsL_nodesThatAre_r2 : List Cond := [Cond.selects RX2 yX2_raisesAfter yX2_raisesAfter, Cond.initialized RX2, Cond.code yX2_raisesAfter cX2_raisesAfter 5 (some .int), Cond.fieldLink RX2 27 "Alarmgrove$Log" "count" "I", Cond.fieldLink RX2 9 "Alarmgrove$Log" "kinds" "[I", Cond.fieldLink RX2 15 "Alarmgrove$Log" "nodes" "[I", Cond.fieldLink RX2 18 "Alarmgrove$Log" "times" "[I", Cond.methodLink RX4 41 yX1_below, Cond.instanceMethod yX1_below, Cond.selects RX1 yX1_below yX1_below, Cond.initialized RX1, Cond.code yX1_below cX1_below 2 (some .int), Cond.fieldLink RX1 18 "Alarmgrove$Graph" "below" "[I"]
def wsL_nodesThatAre : List Cond := .codeWith yL_nodesThatAre cL_nodesThatAre 4 (some .int) [(0, 9, 12, 15)] :: ((wsL_nodesThatAre_r1 ++ wsL_nodesThatAre_r2) ++ wsX40 ++ wsX20 ++ wsX10 ++ (vx_atS RX4 53 "java/lang/IllegalArgumentException" ["java/lang/RuntimeException", "java/lang/Exception"]).filter goodWord)
def wsL_raises_r1 : List Cond := [Cond.classLink RL 13 "java/lang/IndexOutOfBoundsException", Cond.classLink RL 15 "java/lang/IllegalArgumentException", Cond.methodLink RL 47 yX4_raises, Cond.instanceMethod yX4_raises, Cond.selects RX4 yX4_raises yX4_raises, Cond.initialized RX4, Cond.code yX4_raises cX4_raises 3 (some .int), Cond.fieldLink RX4 19 "Alarmgrove" "log" "LAlarmgrove$Log;", Cond.fieldLink RX4 34 "Alarmgrove" "time" "I", Cond.methodLink RX4 37 yX4_checkNode, Cond.static yX4_checkNode, Cond.code yX4_checkNode cX4_checkNode 1 none, Cond.classLink RX4 166 "java/lang/IndexOutOfBoundsException", Cond.initialized "java/lang/IndexOutOfBoundsException", Cond.methodLink RX4 68 yX4_checkTicks, Cond.static yX4_checkTicks, Cond.code yX4_checkTicks cX4_checkTicks 2 none, Cond.classLink RX4 49 "java/lang/IllegalArgumentException", Cond.initialized "java/lang/IllegalArgumentException", Cond.methodLink RX4 100 yX2_raisesAfter, Cond.instanceMethod yX2_raisesAfter, Cond.selects RX2 yX2_raisesAfter yX2_raisesAfter, Cond.initialized RX2, Cond.code yX2_raisesAfter cX2_raisesAfter 5 (some .int)]
def wsL_raises_r2 : List Cond := [Cond.fieldLink RX2 27 "Alarmgrove$Log" "count" "I", Cond.fieldLink RX2 9 "Alarmgrove$Log" "kinds" "[I", Cond.fieldLink RX2 15 "Alarmgrove$Log" "nodes" "[I", Cond.fieldLink RX2 18 "Alarmgrove$Log" "times" "[I"]
def wsL_raises : List Cond := .codeWith yL_raises cL_raises 5 (some .int) [(0, 10, 13, 13), (0, 10, 17, 15)] :: ((wsL_raises_r1 ++ wsL_raises_r2) ++ wsX40 ++ wsX20 ++ (vx_atS RX4 170 "java/lang/IndexOutOfBoundsException" ["java/lang/RuntimeException", "java/lang/Exception"]).filter goodWord ++ (vx_atS RX4 53 "java/lang/IllegalArgumentException" ["java/lang/RuntimeException", "java/lang/Exception"]).filter goodWord)
def wsL_eventKind : List Cond := .codeWith yL_eventKind cL_eventKind 4 (some .int) [(0, 9, 12, 13)] :: ([.classLink RL 13 "java/lang/IndexOutOfBoundsException", .methodLink RL 51 yX4_eventKind, .instanceMethod yX4_eventKind, .selects RX4 yX4_eventKind yX4_eventKind, .initialized RX4, .code yX4_eventKind cX4_eventKind 2 (some .int), .fieldLink RX4 19 "Alarmgrove" "log" "LAlarmgrove$Log;", .methodLink RX4 107 yX4_checkEvent, .instanceMethod yX4_checkEvent, .selects RX4 yX4_checkEvent yX4_checkEvent, .code yX4_checkEvent cX4_checkEvent 2 none, .classLink RX4 166 "java/lang/IndexOutOfBoundsException", .initialized "java/lang/IndexOutOfBoundsException", .methodLink RX4 103 yX2_count, .instanceMethod yX2_count, .selects RX2 yX2_count yX2_count, .initialized RX2, .code yX2_count cX2_count 1 (some .int), .fieldLink RX2 27 "Alarmgrove$Log" "count" "I", .methodLink RX4 110 yX2_kindAt, .instanceMethod yX2_kindAt, .selects RX2 yX2_kindAt yX2_kindAt, .code yX2_kindAt cX2_kindAt 2 (some .int), .fieldLink RX2 9 "Alarmgrove$Log" "kinds" "[I"] ++ wsX40 ++ wsX20 ++ (vx_atS RX4 170 "java/lang/IndexOutOfBoundsException" ["java/lang/RuntimeException", "java/lang/Exception"]).filter goodWord)
def wsL_eventNode : List Cond := .codeWith yL_eventNode cL_eventNode 4 (some .int) [(0, 9, 12, 13)] :: ([.classLink RL 13 "java/lang/IndexOutOfBoundsException", .methodLink RL 54 yX4_eventNode, .instanceMethod yX4_eventNode, .selects RX4 yX4_eventNode yX4_eventNode, .initialized RX4, .code yX4_eventNode cX4_eventNode 2 (some .int), .fieldLink RX4 19 "Alarmgrove" "log" "LAlarmgrove$Log;", .methodLink RX4 107 yX4_checkEvent, .instanceMethod yX4_checkEvent, .selects RX4 yX4_checkEvent yX4_checkEvent, .code yX4_checkEvent cX4_checkEvent 2 none, .classLink RX4 166 "java/lang/IndexOutOfBoundsException", .initialized "java/lang/IndexOutOfBoundsException", .methodLink RX4 103 yX2_count, .instanceMethod yX2_count, .selects RX2 yX2_count yX2_count, .initialized RX2, .code yX2_count cX2_count 1 (some .int), .fieldLink RX2 27 "Alarmgrove$Log" "count" "I", .methodLink RX4 113 yX2_nodeAt, .instanceMethod yX2_nodeAt, .selects RX2 yX2_nodeAt yX2_nodeAt, .code yX2_nodeAt cX2_nodeAt 2 (some .int), .fieldLink RX2 15 "Alarmgrove$Log" "nodes" "[I"] ++ wsX40 ++ wsX20 ++ (vx_atS RX4 170 "java/lang/IndexOutOfBoundsException" ["java/lang/RuntimeException", "java/lang/Exception"]).filter goodWord)
def wsL_eventTime : List Cond := .codeWith yL_eventTime cL_eventTime 4 (some .int) [(0, 9, 12, 13)] :: ([.classLink RL 13 "java/lang/IndexOutOfBoundsException", .methodLink RL 57 yX4_eventTime, .instanceMethod yX4_eventTime, .selects RX4 yX4_eventTime yX4_eventTime, .initialized RX4, .code yX4_eventTime cX4_eventTime 2 (some .int), .fieldLink RX4 19 "Alarmgrove" "log" "LAlarmgrove$Log;", .methodLink RX4 107 yX4_checkEvent, .instanceMethod yX4_checkEvent, .selects RX4 yX4_checkEvent yX4_checkEvent, .code yX4_checkEvent cX4_checkEvent 2 none, .classLink RX4 166 "java/lang/IndexOutOfBoundsException", .initialized "java/lang/IndexOutOfBoundsException", .methodLink RX4 103 yX2_count, .instanceMethod yX2_count, .selects RX2 yX2_count yX2_count, .initialized RX2, .code yX2_count cX2_count 1 (some .int), .fieldLink RX2 27 "Alarmgrove$Log" "count" "I", .methodLink RX4 116 yX2_timeAt, .instanceMethod yX2_timeAt, .selects RX2 yX2_timeAt yX2_timeAt, .code yX2_timeAt cX2_timeAt 2 (some .int), .fieldLink RX2 18 "Alarmgrove$Log" "times" "[I"] ++ wsX40 ++ wsX20 ++ (vx_atS RX4 170 "java/lang/IndexOutOfBoundsException" ["java/lang/RuntimeException", "java/lang/Exception"]).filter goodWord)
def wsL_eventLength : List Cond := .codeWith yL_eventLength cL_eventLength 4 (some .int) [(0, 9, 12, 13)] :: ([.classLink RL 13 "java/lang/IndexOutOfBoundsException", .methodLink RL 60 yX4_eventLength, .instanceMethod yX4_eventLength, .selects RX4 yX4_eventLength yX4_eventLength, .initialized RX4, .code yX4_eventLength cX4_eventLength 2 (some .int), .fieldLink RX4 19 "Alarmgrove" "log" "LAlarmgrove$Log;", .methodLink RX4 107 yX4_checkEvent, .instanceMethod yX4_checkEvent, .selects RX4 yX4_checkEvent yX4_checkEvent, .code yX4_checkEvent cX4_checkEvent 2 none, .classLink RX4 166 "java/lang/IndexOutOfBoundsException", .initialized "java/lang/IndexOutOfBoundsException", .methodLink RX4 103 yX2_count, .instanceMethod yX2_count, .selects RX2 yX2_count yX2_count, .initialized RX2, .code yX2_count cX2_count 1 (some .int), .fieldLink RX2 27 "Alarmgrove$Log" "count" "I", .methodLink RX4 119 yX2_lengthAt, .instanceMethod yX2_lengthAt, .selects RX2 yX2_lengthAt yX2_lengthAt, .code yX2_lengthAt cX2_lengthAt 2 (some .int), .fieldLink RX2 21 "Alarmgrove$Log" "lengths" "[I"] ++ wsX40 ++ wsX20 ++ (vx_atS RX4 170 "java/lang/IndexOutOfBoundsException" ["java/lang/RuntimeException", "java/lang/Exception"]).filter goodWord)
def wsL_ticketOf : List Cond := .codeWith yL_ticketOf cL_ticketOf 4 (some .int) [(0, 9, 12, 13)] :: ([.classLink RL 13 "java/lang/IndexOutOfBoundsException", .methodLink RL 63 yX4_ticketOf, .instanceMethod yX4_ticketOf, .selects RX4 yX4_ticketOf yX4_ticketOf, .initialized RX4, .code yX4_ticketOf cX4_ticketOf 2 (some .int), .fieldLink RX4 26 "Alarmgrove" "tickets" "LAlarmgrove$Tickets;", .methodLink RX4 37 yX4_checkNode, .static yX4_checkNode, .code yX4_checkNode cX4_checkNode 1 none, .classLink RX4 166 "java/lang/IndexOutOfBoundsException", .initialized "java/lang/IndexOutOfBoundsException", .methodLink RX4 125 yX3_numberOf, .instanceMethod yX3_numberOf, .selects RX3 yX3_numberOf yX3_numberOf, .initialized RX3, .code yX3_numberOf cX3_numberOf 2 (some .int), .fieldLink RX3 9 "Alarmgrove$Tickets" "numbers" "[I"] ++ wsX40 ++ wsX30 ++ (vx_atS RX4 170 "java/lang/IndexOutOfBoundsException" ["java/lang/RuntimeException", "java/lang/Exception"]).filter goodWord)
def wsL_isPlausible_r1 : List Cond := [Cond.classLink RL 13 "java/lang/IndexOutOfBoundsException", Cond.methodLink RL 66 yX4_isPlausible, Cond.instanceMethod yX4_isPlausible, Cond.selects RX4 yX4_isPlausible yX4_isPlausible, Cond.initialized RX4, Cond.code yX4_isPlausible cX4_isPlausible 2 (some .boolean), Cond.methodLink RX4 37 yX4_checkNode, Cond.static yX4_checkNode, Cond.code yX4_checkNode cX4_checkNode 1 none, Cond.classLink RX4 166 "java/lang/IndexOutOfBoundsException", Cond.initialized "java/lang/IndexOutOfBoundsException", Cond.methodLink RX4 137 yX4_diagnoser, Cond.instanceMethod yX4_diagnoser, Cond.selects RX4 yX4_diagnoser yX4_diagnoser, Cond.code yX4_diagnoser cX4_diagnoser 1 (some (.object "Alarmgrove$Diagnoser")), Cond.classLink RX4 142 RX0, Cond.instantiable RX0 3, Cond.initialized RX0, Cond.fieldLink RX4 10 "Alarmgrove" "graph" "LAlarmgrove$Graph;", Cond.fieldLink RX4 30 "Alarmgrove" "raised" "I", Cond.methodLink RX4 177 yX0_init, Cond.instanceMethod yX0_init, Cond.code yX0_init cX0_init 3 none, Cond.methodLink RX0 3 objectInit]
def wsL_isPlausible_r2 : List Cond := [Cond.instanceMethod objectInit, Cond.code objectInit ⟨#[0xb1]⟩ 1 none, Cond.fieldLink RX0 9 "Alarmgrove$Diagnoser" "graph" "LAlarmgrove$Graph;", Cond.fieldLink RX0 15 "Alarmgrove$Diagnoser" "raised" "I", Cond.fieldLink RX0 23 "Alarmgrove$Diagnoser" "plausible" "I", Cond.methodLink RX0 19 yX0_plausibleOf, Cond.static yX0_plausibleOf, Cond.code yX0_plausibleOf cX0_plausibleOf 5 (some .int), Cond.methodLink RX0 65 yX1_users, Cond.instanceMethod yX1_users, Cond.selects RX1 yX1_users yX1_users, Cond.initialized RX1, Cond.code yX1_users cX1_users 2 (some .int), Cond.fieldLink RX1 15 "Alarmgrove$Graph" "users" "[I", Cond.static yX4_only, Cond.code yX4_only cX4_only 1 (some .int), Cond.methodLink RX4 141 yX0_plausibleNodes, Cond.instanceMethod yX0_plausibleNodes, Cond.selects RX0 yX0_plausibleNodes yX0_plausibleNodes, Cond.code yX0_plausibleNodes cX0_plausibleNodes 1 (some .int), Cond.methodLink RX4 45 yX4_has, Cond.static yX4_has, Cond.code yX4_has cX4_has 2 (some .boolean), Cond.methodLink RX4 82 yX4_only]
def wsL_isPlausible : List Cond := .codeWith yL_isPlausible cL_isPlausible 4 (some .int) [(0, 16, 19, 13)] :: ((wsL_isPlausible_r1 ++ wsL_isPlausible_r2) ++ wsX00 ++ wsX40 ++ wsX10 ++ (vx_atS RX4 170 "java/lang/IndexOutOfBoundsException" ["java/lang/RuntimeException", "java/lang/Exception"]).filter goodWord)
def wsL_cause_r1 : List Cond := [Cond.classLink RL 13 "java/lang/IndexOutOfBoundsException", Cond.methodLink RL 70 yX4_cause, Cond.instanceMethod yX4_cause, Cond.selects RX4 yX4_cause yX4_cause, Cond.initialized RX4, Cond.code yX4_cause cX4_cause 2 (some .int), Cond.methodLink RX4 137 yX4_diagnoser, Cond.instanceMethod yX4_diagnoser, Cond.selects RX4 yX4_diagnoser yX4_diagnoser, Cond.code yX4_diagnoser cX4_diagnoser 1 (some (.object "Alarmgrove$Diagnoser")), Cond.classLink RX4 142 RX0, Cond.instantiable RX0 3, Cond.initialized RX0, Cond.fieldLink RX4 10 "Alarmgrove" "graph" "LAlarmgrove$Graph;", Cond.fieldLink RX4 30 "Alarmgrove" "raised" "I", Cond.methodLink RX4 177 yX0_init, Cond.instanceMethod yX0_init, Cond.code yX0_init cX0_init 3 none, Cond.methodLink RX0 3 objectInit, Cond.instanceMethod objectInit, Cond.code objectInit ⟨#[0xb1]⟩ 1 none, Cond.fieldLink RX0 9 "Alarmgrove$Diagnoser" "graph" "LAlarmgrove$Graph;", Cond.fieldLink RX0 15 "Alarmgrove$Diagnoser" "raised" "I", Cond.fieldLink RX0 23 "Alarmgrove$Diagnoser" "plausible" "I"]
def wsL_cause_r2 : List Cond := [Cond.methodLink RX0 19 yX0_plausibleOf, Cond.static yX0_plausibleOf, Cond.code yX0_plausibleOf cX0_plausibleOf 5 (some .int), Cond.methodLink RX0 65 yX1_users, Cond.instanceMethod yX1_users, Cond.selects RX1 yX1_users yX1_users, Cond.initialized RX1, Cond.code yX1_users cX1_users 2 (some .int), Cond.fieldLink RX1 15 "Alarmgrove$Graph" "users" "[I", Cond.static yX4_only, Cond.code yX4_only cX4_only 1 (some .int), Cond.methodLink RX4 146 yX0_bestBySearch, Cond.instanceMethod yX0_bestBySearch, Cond.selects RX0 yX0_bestBySearch yX0_bestBySearch, Cond.code yX0_bestBySearch cX0_bestBySearch 1 (some .int), Cond.methodLink RX0 26 yX0_search, Cond.static yX0_search, Cond.code yX0_search cX0_search 13 (some .int), Cond.static yX4_nodeAtPlace, Cond.code yX4_nodeAtPlace cX4_nodeAtPlace 4 (some .int), Cond.methodLink RX4 45 yX4_has, Cond.static yX4_has, Cond.code yX4_has cX4_has 2 (some .boolean), Cond.methodLink RX4 82 yX4_only]
def wsL_cause_r3 : List Cond := [Cond.methodLink RX0 36 yX0_isBetter, Cond.instanceMethod yX0_isBetter, Cond.selects RX0 yX0_isBetter yX0_isBetter, Cond.code yX0_isBetter cX0_isBetter 8 (some .boolean), Cond.methodLink RX0 30 yJ6_bitCount_0f7a4, Cond.static yJ6_bitCount_0f7a4, Cond.initialized RJ6, Cond.code yJ6_bitCount_0f7a4 cJ6_bitCount_0f7a4 1 (some .int), Cond.constant RJ6 265 (1431655765), Cond.constant RJ6 266 (858993459), Cond.constant RJ6 267 (252645135), Cond.methodLink RX0 59 yX1_explainersOf, Cond.instanceMethod yX1_explainersOf, Cond.selects RX1 yX1_explainersOf yX1_explainersOf, Cond.code yX1_explainersOf cX1_explainersOf 2 (some .int), Cond.fieldLink RX1 18 "Alarmgrove$Graph" "below" "[I", Cond.methodLink RX0 47 yX1_explainedBy, Cond.instanceMethod yX1_explainedBy, Cond.selects RX1 yX1_explainedBy yX1_explainedBy, Cond.code yX1_explainedBy cX1_explainedBy 2 (some .int), Cond.fieldLink RX1 21 "Alarmgrove$Graph" "above" "[I", Cond.methodLink RX4 154 yX4_nodeThere, Cond.static yX4_nodeThere, Cond.code yX4_nodeThere cX4_nodeThere 3 (some .int)]
def wsL_cause_r4 : List Cond := [Cond.classLink RX4 166 "java/lang/IndexOutOfBoundsException", Cond.initialized "java/lang/IndexOutOfBoundsException", Cond.methodLink RX4 174 yX4_nodeAtPlace]
def wsL_cause : List Cond := .codeWith yL_cause cL_cause 4 (some .int) [(0, 9, 12, 13)] :: ((wsL_cause_r1 ++ (wsL_cause_r2 ++ (wsL_cause_r3 ++ wsL_cause_r4))) ++ wsX00 ++ wsX40 ++ wsX10 ++ (vx_atS RX4 170 "java/lang/IndexOutOfBoundsException" ["java/lang/RuntimeException", "java/lang/Exception"]).filter goodWord)
def wsL_causeByTrying_r1 : List Cond := [Cond.classLink RL 13 "java/lang/IndexOutOfBoundsException", Cond.methodLink RL 73 yX4_causeByTrying, Cond.instanceMethod yX4_causeByTrying, Cond.selects RX4 yX4_causeByTrying yX4_causeByTrying, Cond.initialized RX4, Cond.code yX4_causeByTrying cX4_causeByTrying 2 (some .int), Cond.methodLink RX4 137 yX4_diagnoser, Cond.instanceMethod yX4_diagnoser, Cond.selects RX4 yX4_diagnoser yX4_diagnoser, Cond.code yX4_diagnoser cX4_diagnoser 1 (some (.object "Alarmgrove$Diagnoser")), Cond.classLink RX4 142 RX0, Cond.instantiable RX0 3, Cond.initialized RX0, Cond.fieldLink RX4 10 "Alarmgrove" "graph" "LAlarmgrove$Graph;", Cond.fieldLink RX4 30 "Alarmgrove" "raised" "I", Cond.methodLink RX4 177 yX0_init, Cond.instanceMethod yX0_init, Cond.code yX0_init cX0_init 3 none, Cond.methodLink RX0 3 objectInit, Cond.instanceMethod objectInit, Cond.code objectInit ⟨#[0xb1]⟩ 1 none, Cond.fieldLink RX0 9 "Alarmgrove$Diagnoser" "graph" "LAlarmgrove$Graph;", Cond.fieldLink RX0 15 "Alarmgrove$Diagnoser" "raised" "I", Cond.fieldLink RX0 23 "Alarmgrove$Diagnoser" "plausible" "I"]
def wsL_causeByTrying_r2 : List Cond := [Cond.methodLink RX0 19 yX0_plausibleOf, Cond.static yX0_plausibleOf, Cond.code yX0_plausibleOf cX0_plausibleOf 5 (some .int), Cond.methodLink RX0 65 yX1_users, Cond.instanceMethod yX1_users, Cond.selects RX1 yX1_users yX1_users, Cond.initialized RX1, Cond.code yX1_users cX1_users 2 (some .int), Cond.fieldLink RX1 15 "Alarmgrove$Graph" "users" "[I", Cond.static yX4_only, Cond.code yX4_only cX4_only 1 (some .int), Cond.methodLink RX4 157 yX0_bestByTrying, Cond.instanceMethod yX0_bestByTrying, Cond.selects RX0 yX0_bestByTrying yX0_bestByTrying, Cond.code yX0_bestByTrying cX0_bestByTrying 5 (some .int), Cond.methodLink RX0 30 yJ6_bitCount_0f7a4, Cond.static yJ6_bitCount_0f7a4, Cond.initialized RJ6, Cond.code yJ6_bitCount_0f7a4 cJ6_bitCount_0f7a4 1 (some .int), Cond.constant RJ6 265 (1431655765), Cond.constant RJ6 266 (858993459), Cond.constant RJ6 267 (252645135), Cond.methodLink RX0 36 yX0_isBetter, Cond.instanceMethod yX0_isBetter]
def wsL_causeByTrying_r3 : List Cond := [Cond.selects RX0 yX0_isBetter yX0_isBetter, Cond.code yX0_isBetter cX0_isBetter 8 (some .boolean), Cond.static yX4_nodeAtPlace, Cond.code yX4_nodeAtPlace cX4_nodeAtPlace 4 (some .int), Cond.methodLink RX4 45 yX4_has, Cond.static yX4_has, Cond.code yX4_has cX4_has 2 (some .boolean), Cond.methodLink RX4 82 yX4_only, Cond.methodLink RX0 40 yX0_explainsAll, Cond.instanceMethod yX0_explainsAll, Cond.selects RX0 yX0_explainsAll yX0_explainsAll, Cond.code yX0_explainsAll cX0_explainsAll 3 (some .boolean), Cond.methodLink RX0 59 yX1_explainersOf, Cond.instanceMethod yX1_explainersOf, Cond.selects RX1 yX1_explainersOf yX1_explainersOf, Cond.code yX1_explainersOf cX1_explainersOf 2 (some .int), Cond.fieldLink RX1 18 "Alarmgrove$Graph" "below" "[I", Cond.methodLink RX4 154 yX4_nodeThere, Cond.static yX4_nodeThere, Cond.code yX4_nodeThere cX4_nodeThere 3 (some .int), Cond.classLink RX4 166 "java/lang/IndexOutOfBoundsException", Cond.initialized "java/lang/IndexOutOfBoundsException", Cond.methodLink RX4 174 yX4_nodeAtPlace]
def wsL_causeByTrying : List Cond := .codeWith yL_causeByTrying cL_causeByTrying 4 (some .int) [(0, 9, 12, 13)] :: ((wsL_causeByTrying_r1 ++ (wsL_causeByTrying_r2 ++ wsL_causeByTrying_r3)) ++ wsX00 ++ wsX40 ++ wsX10 ++ (vx_atS RX4 170 "java/lang/IndexOutOfBoundsException" ["java/lang/RuntimeException", "java/lang/Exception"]).filter goodWord)
def wsL_greedyCause_r1 : List Cond := [Cond.classLink RL 13 "java/lang/IndexOutOfBoundsException", Cond.methodLink RL 76 yX4_greedyCause, Cond.instanceMethod yX4_greedyCause, Cond.selects RX4 yX4_greedyCause yX4_greedyCause, Cond.initialized RX4, Cond.code yX4_greedyCause cX4_greedyCause 3 (some .int), Cond.classLink RX4 166 "java/lang/IndexOutOfBoundsException", Cond.initialized "java/lang/IndexOutOfBoundsException", Cond.methodLink RX4 137 yX4_diagnoser, Cond.instanceMethod yX4_diagnoser, Cond.selects RX4 yX4_diagnoser yX4_diagnoser, Cond.code yX4_diagnoser cX4_diagnoser 1 (some (.object "Alarmgrove$Diagnoser")), Cond.classLink RX4 142 RX0, Cond.instantiable RX0 3, Cond.initialized RX0, Cond.fieldLink RX4 10 "Alarmgrove" "graph" "LAlarmgrove$Graph;", Cond.fieldLink RX4 30 "Alarmgrove" "raised" "I", Cond.methodLink RX4 177 yX0_init, Cond.instanceMethod yX0_init, Cond.code yX0_init cX0_init 3 none, Cond.methodLink RX0 3 objectInit, Cond.instanceMethod objectInit, Cond.code objectInit ⟨#[0xb1]⟩ 1 none, Cond.fieldLink RX0 9 "Alarmgrove$Diagnoser" "graph" "LAlarmgrove$Graph;"]
def wsL_greedyCause_r2 : List Cond := [Cond.fieldLink RX0 15 "Alarmgrove$Diagnoser" "raised" "I", Cond.fieldLink RX0 23 "Alarmgrove$Diagnoser" "plausible" "I", Cond.methodLink RX0 19 yX0_plausibleOf, Cond.static yX0_plausibleOf, Cond.code yX0_plausibleOf cX0_plausibleOf 5 (some .int), Cond.methodLink RX0 65 yX1_users, Cond.instanceMethod yX1_users, Cond.selects RX1 yX1_users yX1_users, Cond.initialized RX1, Cond.code yX1_users cX1_users 2 (some .int), Cond.fieldLink RX1 15 "Alarmgrove$Graph" "users" "[I", Cond.static yX4_only, Cond.code yX4_only cX4_only 1 (some .int), Cond.methodLink RX4 163 yX0_greedyAt, Cond.instanceMethod yX0_greedyAt, Cond.selects RX0 yX0_greedyAt yX0_greedyAt, Cond.code yX0_greedyAt cX0_greedyAt 5 (some .int), Cond.methodLink RX0 44 yX0_greedyNext, Cond.instanceMethod yX0_greedyNext, Cond.selects RX0 yX0_greedyNext yX0_greedyNext, Cond.code yX0_greedyNext cX0_greedyNext 7 (some .int), Cond.static yX4_has, Cond.code yX4_has cX4_has 2 (some .boolean), Cond.methodLink RX4 82 yX4_only]
def wsL_greedyCause_r3 : List Cond := [Cond.methodLink RX0 47 yX1_explainedBy, Cond.instanceMethod yX1_explainedBy, Cond.selects RX1 yX1_explainedBy yX1_explainedBy, Cond.code yX1_explainedBy cX1_explainedBy 2 (some .int), Cond.fieldLink RX1 21 "Alarmgrove$Graph" "above" "[I", Cond.methodLink RX0 30 yJ6_bitCount_0f7a4, Cond.static yJ6_bitCount_0f7a4, Cond.initialized RJ6, Cond.code yJ6_bitCount_0f7a4 cJ6_bitCount_0f7a4 1 (some .int), Cond.constant RJ6 265 (1431655765), Cond.constant RJ6 266 (858993459), Cond.constant RJ6 267 (252645135)]
def wsL_greedyCause : List Cond := .codeWith yL_greedyCause cL_greedyCause 4 (some .int) [(0, 9, 12, 13)] :: ((wsL_greedyCause_r1 ++ (wsL_greedyCause_r2 ++ wsL_greedyCause_r3)) ++ wsX00 ++ wsX40 ++ wsX10 ++ (vx_atS RX4 170 "java/lang/IndexOutOfBoundsException" ["java/lang/RuntimeException", "java/lang/Exception"]).filter goodWord)
def wsL_causeOf_r1 : List Cond := [Cond.classLink RL 13 "java/lang/IndexOutOfBoundsException", Cond.methodLink RL 79 yX4_causeOf, Cond.instanceMethod yX4_causeOf, Cond.selects RX4 yX4_causeOf yX4_causeOf, Cond.initialized RX4, Cond.code yX4_causeOf cX4_causeOf 2 (some .int), Cond.fieldLink RX4 30 "Alarmgrove" "raised" "I", Cond.fieldLink RX4 10 "Alarmgrove" "graph" "LAlarmgrove$Graph;", Cond.methodLink RX4 37 yX4_checkNode, Cond.static yX4_checkNode, Cond.code yX4_checkNode cX4_checkNode 1 none, Cond.classLink RX4 166 "java/lang/IndexOutOfBoundsException", Cond.initialized "java/lang/IndexOutOfBoundsException", Cond.methodLink RX4 45 yX4_has, Cond.static yX4_has, Cond.code yX4_has cX4_has 2 (some .boolean), Cond.methodLink RX4 82 yX4_only, Cond.static yX4_only, Cond.code yX4_only cX4_only 1 (some .int), Cond.methodLink RX4 137 yX4_diagnoser, Cond.instanceMethod yX4_diagnoser, Cond.selects RX4 yX4_diagnoser yX4_diagnoser, Cond.code yX4_diagnoser cX4_diagnoser 1 (some (.object "Alarmgrove$Diagnoser")), Cond.classLink RX4 142 RX0]
def wsL_causeOf_r2 : List Cond := [Cond.instantiable RX0 3, Cond.initialized RX0, Cond.methodLink RX4 177 yX0_init, Cond.instanceMethod yX0_init, Cond.code yX0_init cX0_init 3 none, Cond.methodLink RX0 3 objectInit, Cond.instanceMethod objectInit, Cond.code objectInit ⟨#[0xb1]⟩ 1 none, Cond.fieldLink RX0 9 "Alarmgrove$Diagnoser" "graph" "LAlarmgrove$Graph;", Cond.fieldLink RX0 15 "Alarmgrove$Diagnoser" "raised" "I", Cond.fieldLink RX0 23 "Alarmgrove$Diagnoser" "plausible" "I", Cond.methodLink RX0 19 yX0_plausibleOf, Cond.static yX0_plausibleOf, Cond.code yX0_plausibleOf cX0_plausibleOf 5 (some .int), Cond.methodLink RX0 65 yX1_users, Cond.instanceMethod yX1_users, Cond.selects RX1 yX1_users yX1_users, Cond.initialized RX1, Cond.code yX1_users cX1_users 2 (some .int), Cond.fieldLink RX1 15 "Alarmgrove$Graph" "users" "[I", Cond.methodLink RX4 146 yX0_bestBySearch, Cond.instanceMethod yX0_bestBySearch, Cond.selects RX0 yX0_bestBySearch yX0_bestBySearch, Cond.code yX0_bestBySearch cX0_bestBySearch 1 (some .int)]
def wsL_causeOf_r3 : List Cond := [Cond.methodLink RX0 26 yX0_search, Cond.static yX0_search, Cond.code yX0_search cX0_search 13 (some .int), Cond.static yX4_nodeAtPlace, Cond.code yX4_nodeAtPlace cX4_nodeAtPlace 4 (some .int), Cond.methodLink RX0 36 yX0_isBetter, Cond.instanceMethod yX0_isBetter, Cond.selects RX0 yX0_isBetter yX0_isBetter, Cond.code yX0_isBetter cX0_isBetter 8 (some .boolean), Cond.methodLink RX0 30 yJ6_bitCount_0f7a4, Cond.static yJ6_bitCount_0f7a4, Cond.initialized RJ6, Cond.code yJ6_bitCount_0f7a4 cJ6_bitCount_0f7a4 1 (some .int), Cond.constant RJ6 265 (1431655765), Cond.constant RJ6 266 (858993459), Cond.constant RJ6 267 (252645135), Cond.methodLink RX0 59 yX1_explainersOf, Cond.instanceMethod yX1_explainersOf, Cond.selects RX1 yX1_explainersOf yX1_explainersOf, Cond.code yX1_explainersOf cX1_explainersOf 2 (some .int), Cond.fieldLink RX1 18 "Alarmgrove$Graph" "below" "[I", Cond.methodLink RX0 47 yX1_explainedBy, Cond.instanceMethod yX1_explainedBy, Cond.selects RX1 yX1_explainedBy yX1_explainedBy]
def wsL_causeOf_r4 : List Cond := [Cond.code yX1_explainedBy cX1_explainedBy 2 (some .int), Cond.fieldLink RX1 21 "Alarmgrove$Graph" "above" "[I", Cond.methodLink RX4 171 yX1_explainersOf, Cond.methodLink RX4 174 yX4_nodeAtPlace]
def wsL_causeOf : List Cond := .codeWith yL_causeOf cL_causeOf 4 (some .int) [(0, 9, 12, 13)] :: ((wsL_causeOf_r1 ++ (wsL_causeOf_r2 ++ (wsL_causeOf_r3 ++ wsL_causeOf_r4))) ++ wsX40 ++ wsX00 ++ wsX10 ++ (vx_atS RX4 170 "java/lang/IndexOutOfBoundsException" ["java/lang/RuntimeException", "java/lang/Exception"]).filter goodWord)
def wsL_law0_r1 : List Cond := [Cond.classLink RL 8 RX4, Cond.instantiable RX4 5, Cond.initialized RX4, Cond.classLink RL 83 RX5, Cond.instantiable RX5 16, Cond.initialized RX5, Cond.arrayClass .long, Cond.methodLink RL 82 yX4_init, Cond.instanceMethod yX4_init, Cond.code yX4_init cX4_init 1 none, Cond.methodLink RX4 1 objectInit, Cond.instanceMethod objectInit, Cond.code objectInit ⟨#[0xb1]⟩ 1 none, Cond.classLink RX4 7 RX1, Cond.instantiable RX1 4, Cond.initialized RX1, Cond.fieldLink RX4 10 "Alarmgrove" "graph" "LAlarmgrove$Graph;", Cond.classLink RX4 16 RX2, Cond.instantiable RX2 6, Cond.initialized RX2, Cond.fieldLink RX4 19 "Alarmgrove" "log" "LAlarmgrove$Log;", Cond.classLink RX4 23 RX3, Cond.instantiable RX3 4, Cond.initialized RX3]
def wsL_law0_r2 : List Cond := [Cond.fieldLink RX4 26 "Alarmgrove" "tickets" "LAlarmgrove$Tickets;", Cond.fieldLink RX4 30 "Alarmgrove" "raised" "I", Cond.fieldLink RX4 34 "Alarmgrove" "time" "I", Cond.instanceMethod yX1_init, Cond.code yX1_init cX1_init 1 none, Cond.methodLink RX1 3 objectInit, Cond.arrayClass .int, Cond.fieldLink RX1 9 "Alarmgrove$Graph" "needed" "[I", Cond.fieldLink RX1 15 "Alarmgrove$Graph" "users" "[I", Cond.fieldLink RX1 18 "Alarmgrove$Graph" "below" "[I", Cond.fieldLink RX1 21 "Alarmgrove$Graph" "above" "[I", Cond.instanceMethod yX2_init, Cond.code yX2_init cX2_init 1 none, Cond.methodLink RX2 3 objectInit, Cond.fieldLink RX2 9 "Alarmgrove$Log" "kinds" "[I", Cond.fieldLink RX2 15 "Alarmgrove$Log" "nodes" "[I", Cond.fieldLink RX2 18 "Alarmgrove$Log" "times" "[I", Cond.fieldLink RX2 21 "Alarmgrove$Log" "lengths" "[I", Cond.fieldLink RX2 24 "Alarmgrove$Log" "raisedAt" "[I", Cond.fieldLink RX2 27 "Alarmgrove$Log" "count" "I", Cond.methodLink RX4 25 yX3_init, Cond.instanceMethod yX3_init, Cond.code yX3_init cX3_init 2 none, Cond.methodLink RX3 3 objectInit]
def wsL_law0_r3 : List Cond := [Cond.fieldLink RX3 9 "Alarmgrove$Tickets" "numbers" "[I", Cond.fieldLink RX3 15 "Alarmgrove$Tickets" "sizes" "[I", Cond.fieldLink RX3 18 "Alarmgrove$Tickets" "targets" "[I", Cond.fieldLink RX3 21 "Alarmgrove$Tickets" "newest" "I", Cond.methodLink RL 85 yX5_init, Cond.instanceMethod yX5_init, Cond.code yX5_init cX5_init 1 none, Cond.methodLink RX5 1 objectInit, Cond.fieldLink RX5 7 "AlarmgroveModel" "needs" "[I", Cond.fieldLink RX5 13 "AlarmgroveModel" "under" "[I", Cond.fieldLink RX5 16 "AlarmgroveModel" "since" "[I", Cond.fieldLink RX5 19 "AlarmgroveModel" "ticket" "[I", Cond.fieldLink RX5 22 "AlarmgroveModel" "nodes" "[I", Cond.fieldLink RX5 25 "AlarmgroveModel" "states" "[I", Cond.fieldLink RX5 28 "AlarmgroveModel" "into" "[I", Cond.fieldLink RX5 31 "AlarmgroveModel" "kind" "[I", Cond.fieldLink RX5 34 "AlarmgroveModel" "node" "[I", Cond.fieldLink RX5 37 "AlarmgroveModel" "time" "[I", Cond.fieldLink RX5 40 "AlarmgroveModel" "length" "[I", Cond.methodLink RL 86 yL_need, Cond.static yL_need, Cond.initialized RL, Cond.codeWith yL_need cL_need 5 (some .int) [(0, 17, 20, 13), (0, 17, 24, 15)], Cond.classLink RL 13 "java/lang/IndexOutOfBoundsException"]
def wsL_law0_r4 : List Cond := [Cond.classLink RL 15 "java/lang/IllegalArgumentException", Cond.methodLink RL 7 yX4_need, Cond.instanceMethod yX4_need, Cond.selects RX4 yX4_need yX4_need, Cond.code yX4_need cX4_need 3 (some .boolean), Cond.classLink RX4 49 "java/lang/IllegalArgumentException", Cond.initialized "java/lang/IllegalArgumentException", Cond.methodLink RX4 37 yX4_checkNode, Cond.static yX4_checkNode, Cond.code yX4_checkNode cX4_checkNode 1 none, Cond.classLink RX4 166 "java/lang/IndexOutOfBoundsException", Cond.initialized "java/lang/IndexOutOfBoundsException", Cond.methodLink RX4 41 yX1_below, Cond.instanceMethod yX1_below, Cond.selects RX1 yX1_below yX1_below, Cond.code yX1_below cX1_below 2 (some .int), Cond.methodLink RX4 45 yX4_has, Cond.static yX4_has, Cond.code yX4_has cX4_has 2 (some .boolean), Cond.methodLink RX4 82 yX4_only, Cond.static yX4_only, Cond.code yX4_only cX4_only 1 (some .int), Cond.methodLink RX4 56 yX1_link, Cond.instanceMethod yX1_link]
def wsL_law0_r5 : List Cond := [Cond.selects RX1 yX1_link yX1_link, Cond.code yX1_link cX1_link 3 (some .boolean), Cond.methodLink RX1 32 yX1_followAll, Cond.instanceMethod yX1_followAll, Cond.selects RX1 yX1_followAll yX1_followAll, Cond.code yX1_followAll cX1_followAll 2 none, Cond.methodLink RX1 39 yX1_follow, Cond.static yX1_follow, Cond.code yX1_follow cX1_follow 5 (some .int), Cond.methodLink RX1 35 yX1_step, Cond.static yX1_step, Cond.code yX1_step cX1_step 4 (some .int), Cond.methodLink RL 91 yX5_need, Cond.instanceMethod yX5_need, Cond.selects RX5 yX5_need yX5_need, Cond.code yX5_need cX5_need 5 (some .boolean), Cond.methodLink RX5 51 yX5_isNode, Cond.static yX5_isNode, Cond.code yX5_isNode cX5_isNode 1 (some .boolean), Cond.methodLink RX5 47 yX5_has, Cond.static yX5_has, Cond.code yX5_has cX5_has 2 (some .boolean), Cond.methodLink RX5 55 yX5_goes, Cond.instanceMethod yX5_goes]
def wsL_law0_r6 : List Cond := [Cond.selects RX5 yX5_goes yX5_goes, Cond.code yX5_goes cX5_goes 3 (some .boolean), Cond.fieldLink RX5 43 "AlarmgroveModel" "thrown" "I", Cond.methodLink RX5 59 yX5_closes, Cond.instanceMethod yX5_closes, Cond.selects RX5 yX5_closes yX5_closes, Cond.code yX5_closes cX5_closes 4 none, Cond.methodLink RL 92 yX5_thrown, Cond.instanceMethod yX5_thrown, Cond.selects RX5 yX5_thrown yX5_thrown, Cond.code yX5_thrown cX5_thrown 1 (some .int), Cond.methodLink RL 96 yL_release, Cond.static yL_release, Cond.codeWith yL_release cL_release 5 (some .int) [(0, 17, 20, 13)], Cond.methodLink RL 17 yX4_release, Cond.instanceMethod yX4_release, Cond.selects RX4 yX4_release yX4_release, Cond.code yX4_release cX4_release 3 (some .boolean), Cond.methodLink RX4 59 yX1_unlink, Cond.instanceMethod yX1_unlink, Cond.selects RX1 yX1_unlink yX1_unlink, Cond.code yX1_unlink cX1_unlink 3 (some .boolean), Cond.methodLink RL 98 yX5_release, Cond.instanceMethod yX5_release]
def wsL_law0_r7 : List Cond := [Cond.selects RX5 yX5_release yX5_release, Cond.code yX5_release cX5_release 4 (some .boolean), Cond.methodLink RL 99 yL_needs, Cond.static yL_needs, Cond.codeWith yL_needs cL_needs 5 (some .int) [(0, 17, 20, 13)], Cond.methodLink RL 20 yX4_needs, Cond.instanceMethod yX4_needs, Cond.selects RX4 yX4_needs yX4_needs, Cond.code yX4_needs cX4_needs 3 (some .boolean), Cond.methodLink RX4 62 yX1_needed, Cond.instanceMethod yX1_needed, Cond.selects RX1 yX1_needed yX1_needed, Cond.code yX1_needed cX1_needed 2 (some .int), Cond.methodLink RL 101 yX5_needs, Cond.instanceMethod yX5_needs, Cond.selects RX5 yX5_needs yX5_needs, Cond.code yX5_needs cX5_needs 3 (some .boolean), Cond.methodLink RL 102 yL_dependsOn, Cond.static yL_dependsOn, Cond.codeWith yL_dependsOn cL_dependsOn 5 (some .int) [(0, 17, 20, 13)], Cond.methodLink RL 23 yX4_dependsOn, Cond.instanceMethod yX4_dependsOn, Cond.selects RX4 yX4_dependsOn yX4_dependsOn, Cond.code yX4_dependsOn cX4_dependsOn 3 (some .boolean)]
def wsL_law0_r8 : List Cond := [Cond.methodLink RL 104 yX5_dependsOn, Cond.instanceMethod yX5_dependsOn, Cond.selects RX5 yX5_dependsOn yX5_dependsOn, Cond.code yX5_dependsOn cX5_dependsOn 3 (some .boolean), Cond.methodLink RL 105 yL_height, Cond.static yL_height, Cond.codeWith yL_height cL_height 4 (some .int) [(0, 9, 12, 13)], Cond.methodLink RL 26 yX4_height, Cond.instanceMethod yX4_height, Cond.selects RX4 yX4_height yX4_height, Cond.code yX4_height cX4_height 2 (some .int), Cond.methodLink RX4 65 yX1_longestWayDown, Cond.instanceMethod yX1_longestWayDown, Cond.selects RX1 yX1_longestWayDown yX1_longestWayDown, Cond.code yX1_longestWayDown cX1_longestWayDown 4 (some .int), Cond.methodLink RL 108 yX5_height, Cond.instanceMethod yX5_height, Cond.selects RX5 yX5_height yX5_height, Cond.code yX5_height cX5_height 6 (some .int), Cond.methodLink RL 109 yL_tick, Cond.static yL_tick, Cond.codeWith yL_tick cL_tick 4 (some .int) [(0, 9, 12, 15)], Cond.methodLink RL 30 yX4_tick, Cond.instanceMethod yX4_tick]
def wsL_law0_r9 : List Cond := [Cond.selects RX4 yX4_tick yX4_tick, Cond.code yX4_tick cX4_tick 2 (some .int), Cond.methodLink RX4 68 yX4_checkTicks, Cond.static yX4_checkTicks, Cond.code yX4_checkTicks cX4_checkTicks 2 none, Cond.methodLink RL 111 yX5_tick, Cond.instanceMethod yX5_tick, Cond.selects RX5 yX5_tick yX5_tick, Cond.code yX5_tick cX5_tick 2 (some .int), Cond.fieldLink RX5 62 "AlarmgroveModel" "now" "I", Cond.methodLink RL 112 yX4_now, Cond.instanceMethod yX4_now, Cond.selects RX4 yX4_now yX4_now, Cond.code yX4_now cX4_now 1 (some .int), Cond.methodLink RL 115 yX5_now, Cond.instanceMethod yX5_now, Cond.selects RX5 yX5_now yX5_now, Cond.code yX5_now cX5_now 1 (some .int), Cond.methodLink RL 116 yL_raise, Cond.static yL_raise, Cond.codeWith yL_raise cL_raise 4 (some .int) [(0, 9, 12, 13), (0, 9, 15, 36)], Cond.classLink RL 36 "java/lang/IllegalStateException", Cond.methodLink RL 33 yX4_raise, Cond.instanceMethod yX4_raise]
def wsL_law0_r10 : List Cond := [Cond.selects RX4 yX4_raise yX4_raise, Cond.code yX4_raise cX4_raise 3 (some .int), Cond.methodLink RX4 72 yX4_checkChange, Cond.instanceMethod yX4_checkChange, Cond.selects RX4 yX4_checkChange yX4_checkChange, Cond.code yX4_checkChange cX4_checkChange 2 none, Cond.classLink RX4 188 "java/lang/IllegalStateException", Cond.initialized "java/lang/IllegalStateException", Cond.methodLink RX4 184 yX2_isFull, Cond.instanceMethod yX2_isFull, Cond.selects RX2 yX2_isFull yX2_isFull, Cond.code yX2_isFull cX2_isFull 1 (some .boolean), Cond.methodLink RX4 76 yX2_addRaise, Cond.instanceMethod yX2_addRaise, Cond.selects RX2 yX2_addRaise yX2_addRaise, Cond.code yX2_addRaise cX2_addRaise 3 none, Cond.methodLink RX2 31 yX2_add, Cond.instanceMethod yX2_add, Cond.selects RX2 yX2_add yX2_add, Cond.code yX2_add cX2_add 5 none, Cond.methodLink RX4 79 yX1_above, Cond.instanceMethod yX1_above, Cond.selects RX1 yX1_above yX1_above, Cond.code yX1_above cX1_above 2 (some .int)]
def wsL_law0_r11 : List Cond := [Cond.methodLink RX4 85 yX3_join, Cond.instanceMethod yX3_join, Cond.selects RX3 yX3_join yX3_join, Cond.code yX3_join cX3_join 4 (some .int), Cond.methodLink RX3 33 yX3_openNew, Cond.instanceMethod yX3_openNew, Cond.selects RX3 yX3_openNew yX3_openNew, Cond.code yX3_openNew cX3_openNew 1 (some .int), Cond.methodLink RX3 37 yX3_unite, Cond.instanceMethod yX3_unite, Cond.selects RX3 yX3_unite yX3_unite, Cond.code yX3_unite cX3_unite 4 (some .int), Cond.methodLink RX3 44 Lib.Math.min.name, Cond.static Lib.Math.min.name, Cond.initialized "java/lang/Math", Cond.code Lib.Math.min.name Lib.Math.min.code 2 (some .int), Cond.methodLink RX3 50 yX3_merge, Cond.instanceMethod yX3_merge, Cond.selects RX3 yX3_merge yX3_merge, Cond.code yX3_merge cX3_merge 4 none, Cond.methodLink RL 118 yX5_raise, Cond.instanceMethod yX5_raise, Cond.selects RX5 yX5_raise yX5_raise, Cond.code yX5_raise cX5_raise 6 (some .int)]
def wsL_law0_r12 : List Cond := [Cond.fieldLink RX5 68 "AlarmgroveModel" "raised" "I", Cond.fieldLink RX5 65 "AlarmgroveModel" "events" "I", Cond.fieldLink RX5 75 "AlarmgroveModel" "tickets" "I", Cond.methodLink RX5 71 yX5_kin, Cond.instanceMethod yX5_kin, Cond.selects RX5 yX5_kin yX5_kin, Cond.code yX5_kin cX5_kin 4 (some .int), Cond.methodLink RX5 78 yX5_notes, Cond.instanceMethod yX5_notes, Cond.selects RX5 yX5_notes yX5_notes, Cond.code yX5_notes cX5_notes 4 none, Cond.methodLink RL 119 yL_clear, Cond.static yL_clear, Cond.codeWith yL_clear cL_clear 4 (some .int) [(0, 9, 12, 13), (0, 9, 15, 36)], Cond.methodLink RL 38 yX4_clear, Cond.instanceMethod yX4_clear, Cond.selects RX4 yX4_clear yX4_clear, Cond.code yX4_clear cX4_clear 2 (some .int), Cond.methodLink RX4 89 yX2_addClear, Cond.instanceMethod yX2_addClear, Cond.selects RX2 yX2_addClear yX2_addClear, Cond.code yX2_addClear cX2_addClear 3 none, Cond.methodLink RX4 92 yX3_leave, Cond.instanceMethod yX3_leave]
def wsL_law0_r13 : List Cond := [Cond.selects RX3 yX3_leave yX3_leave, Cond.code yX3_leave cX3_leave 3 (some .int), Cond.methodLink RL 121 yX5_clear, Cond.instanceMethod yX5_clear, Cond.selects RX5 yX5_clear yX5_clear, Cond.code yX5_clear cX5_clear 4 (some .int), Cond.methodLink RX5 82 yX5_count, Cond.static yX5_count, Cond.code yX5_count cX5_count 3 (some .int), Cond.methodLink RL 122 yL_state, Cond.static yL_state, Cond.codeWith yL_state cL_state 4 (some .int) [(0, 9, 12, 13)], Cond.methodLink RL 41 yX4_state, Cond.instanceMethod yX4_state, Cond.selects RX4 yX4_state yX4_state, Cond.code yX4_state cX4_state 2 (some .int), Cond.methodLink RX4 95 yX4_stateNow, Cond.instanceMethod yX4_stateNow, Cond.selects RX4 yX4_stateNow yX4_stateNow, Cond.code yX4_stateNow cX4_stateNow 2 (some .int), Cond.methodLink RX4 100 yX2_raisesAfter, Cond.instanceMethod yX2_raisesAfter, Cond.selects RX2 yX2_raisesAfter yX2_raisesAfter, Cond.code yX2_raisesAfter cX2_raisesAfter 5 (some .int)]
def wsL_law0_r14 : List Cond := [Cond.methodLink RL 124 yX5_state, Cond.instanceMethod yX5_state, Cond.selects RX5 yX5_state yX5_state, Cond.code yX5_state cX5_state 2 (some .int), Cond.methodLink RX5 89 yX5_stateOf, Cond.instanceMethod yX5_stateOf, Cond.selects RX5 yX5_stateOf yX5_stateOf, Cond.code yX5_stateOf cX5_stateOf 2 (some .int), Cond.methodLink RX5 85 yX5_raisesOf, Cond.instanceMethod yX5_raisesOf, Cond.selects RX5 yX5_raisesOf yX5_raisesOf, Cond.code yX5_raisesOf cX5_raisesOf 5 (some .int), Cond.methodLink RL 125 yL_nodesThatAre, Cond.static yL_nodesThatAre, Cond.codeWith yL_nodesThatAre cL_nodesThatAre 4 (some .int) [(0, 9, 12, 15)], Cond.methodLink RL 44 yX4_nodesThatAre, Cond.instanceMethod yX4_nodesThatAre, Cond.selects RX4 yX4_nodesThatAre yX4_nodesThatAre, Cond.code yX4_nodesThatAre cX4_nodesThatAre 4 (some .int), Cond.methodLink RL 127 yX5_nodesThatAre, Cond.instanceMethod yX5_nodesThatAre, Cond.selects RX5 yX5_nodesThatAre yX5_nodesThatAre, Cond.code yX5_nodesThatAre cX5_nodesThatAre 4 (some .int), Cond.methodLink RL 128 yL_raises]
def wsL_law0_r15 : List Cond := [Cond.static yL_raises, Cond.codeWith yL_raises cL_raises 5 (some .int) [(0, 10, 13, 13), (0, 10, 17, 15)], Cond.methodLink RL 47 yX4_raises, Cond.instanceMethod yX4_raises, Cond.selects RX4 yX4_raises yX4_raises, Cond.code yX4_raises cX4_raises 3 (some .int), Cond.methodLink RL 130 yX5_raises, Cond.instanceMethod yX5_raises, Cond.selects RX5 yX5_raises yX5_raises, Cond.code yX5_raises cX5_raises 3 (some .int), Cond.methodLink RL 131 yX4_events, Cond.instanceMethod yX4_events, Cond.selects RX4 yX4_events yX4_events, Cond.code yX4_events cX4_events 1 (some .int), Cond.methodLink RX4 103 yX2_count, Cond.instanceMethod yX2_count, Cond.selects RX2 yX2_count yX2_count, Cond.code yX2_count cX2_count 1 (some .int), Cond.methodLink RL 134 yX5_events, Cond.instanceMethod yX5_events, Cond.selects RX5 yX5_events yX5_events, Cond.code yX5_events cX5_events 1 (some .int), Cond.methodLink RL 135 yL_eventKind, Cond.static yL_eventKind]
def wsL_law0_r16 : List Cond := [Cond.codeWith yL_eventKind cL_eventKind 4 (some .int) [(0, 9, 12, 13)], Cond.methodLink RL 51 yX4_eventKind, Cond.instanceMethod yX4_eventKind, Cond.selects RX4 yX4_eventKind yX4_eventKind, Cond.code yX4_eventKind cX4_eventKind 2 (some .int), Cond.methodLink RX4 107 yX4_checkEvent, Cond.instanceMethod yX4_checkEvent, Cond.selects RX4 yX4_checkEvent yX4_checkEvent, Cond.code yX4_checkEvent cX4_checkEvent 2 none, Cond.methodLink RX4 110 yX2_kindAt, Cond.instanceMethod yX2_kindAt, Cond.selects RX2 yX2_kindAt yX2_kindAt, Cond.code yX2_kindAt cX2_kindAt 2 (some .int), Cond.methodLink RL 137 yX5_eventKind, Cond.instanceMethod yX5_eventKind, Cond.selects RX5 yX5_eventKind yX5_eventKind, Cond.code yX5_eventKind cX5_eventKind 2 (some .int), Cond.methodLink RX5 92 yX5_isEvent, Cond.instanceMethod yX5_isEvent, Cond.selects RX5 yX5_isEvent yX5_isEvent, Cond.code yX5_isEvent cX5_isEvent 2 (some .boolean), Cond.methodLink RL 138 yL_eventNode, Cond.static yL_eventNode, Cond.codeWith yL_eventNode cL_eventNode 4 (some .int) [(0, 9, 12, 13)]]
def wsL_law0_r17 : List Cond := [Cond.methodLink RL 54 yX4_eventNode, Cond.instanceMethod yX4_eventNode, Cond.selects RX4 yX4_eventNode yX4_eventNode, Cond.code yX4_eventNode cX4_eventNode 2 (some .int), Cond.methodLink RX4 113 yX2_nodeAt, Cond.instanceMethod yX2_nodeAt, Cond.selects RX2 yX2_nodeAt yX2_nodeAt, Cond.code yX2_nodeAt cX2_nodeAt 2 (some .int), Cond.methodLink RL 140 yX5_eventNode, Cond.instanceMethod yX5_eventNode, Cond.selects RX5 yX5_eventNode yX5_eventNode, Cond.code yX5_eventNode cX5_eventNode 2 (some .int), Cond.methodLink RL 141 yL_eventTime, Cond.static yL_eventTime, Cond.codeWith yL_eventTime cL_eventTime 4 (some .int) [(0, 9, 12, 13)], Cond.methodLink RL 57 yX4_eventTime, Cond.instanceMethod yX4_eventTime, Cond.selects RX4 yX4_eventTime yX4_eventTime, Cond.code yX4_eventTime cX4_eventTime 2 (some .int), Cond.methodLink RX4 116 yX2_timeAt, Cond.instanceMethod yX2_timeAt, Cond.selects RX2 yX2_timeAt yX2_timeAt, Cond.code yX2_timeAt cX2_timeAt 2 (some .int), Cond.methodLink RL 143 yX5_eventTime]
def wsL_law0_r18 : List Cond := [Cond.instanceMethod yX5_eventTime, Cond.selects RX5 yX5_eventTime yX5_eventTime, Cond.code yX5_eventTime cX5_eventTime 2 (some .int), Cond.methodLink RL 144 yL_eventLength, Cond.static yL_eventLength, Cond.codeWith yL_eventLength cL_eventLength 4 (some .int) [(0, 9, 12, 13)], Cond.methodLink RL 60 yX4_eventLength, Cond.instanceMethod yX4_eventLength, Cond.selects RX4 yX4_eventLength yX4_eventLength, Cond.code yX4_eventLength cX4_eventLength 2 (some .int), Cond.methodLink RX4 119 yX2_lengthAt, Cond.instanceMethod yX2_lengthAt, Cond.selects RX2 yX2_lengthAt yX2_lengthAt, Cond.code yX2_lengthAt cX2_lengthAt 2 (some .int), Cond.methodLink RL 146 yX5_eventLength, Cond.instanceMethod yX5_eventLength, Cond.selects RX5 yX5_eventLength yX5_eventLength, Cond.code yX5_eventLength cX5_eventLength 2 (some .int), Cond.methodLink RL 147 yX4_openTickets, Cond.instanceMethod yX4_openTickets, Cond.selects RX4 yX4_openTickets yX4_openTickets, Cond.code yX4_openTickets cX4_openTickets 1 (some .int), Cond.methodLink RX4 122 yX3_countOpen, Cond.instanceMethod yX3_countOpen]
def wsL_law0_r19 : List Cond := [Cond.selects RX3 yX3_countOpen yX3_countOpen, Cond.code yX3_countOpen cX3_countOpen 3 (some .int), Cond.methodLink RX3 29 yX3_stateOf, Cond.instanceMethod yX3_stateOf, Cond.selects RX3 yX3_stateOf yX3_stateOf, Cond.code yX3_stateOf cX3_stateOf 2 (some .int), Cond.methodLink RX3 25 yX3_isUsed, Cond.instanceMethod yX3_isUsed, Cond.selects RX3 yX3_isUsed yX3_isUsed, Cond.code yX3_isUsed cX3_isUsed 2 (some .boolean), Cond.methodLink RL 150 yX5_openTickets, Cond.instanceMethod yX5_openTickets, Cond.selects RX5 yX5_openTickets yX5_openTickets, Cond.code yX5_openTickets cX5_openTickets 3 (some .int), Cond.methodLink RL 151 yL_ticketOf, Cond.static yL_ticketOf, Cond.codeWith yL_ticketOf cL_ticketOf 4 (some .int) [(0, 9, 12, 13)], Cond.methodLink RL 63 yX4_ticketOf, Cond.instanceMethod yX4_ticketOf, Cond.selects RX4 yX4_ticketOf yX4_ticketOf, Cond.code yX4_ticketOf cX4_ticketOf 2 (some .int), Cond.methodLink RX4 125 yX3_numberOf, Cond.instanceMethod yX3_numberOf, Cond.selects RX3 yX3_numberOf yX3_numberOf]
def wsL_law0_r20 : List Cond := [Cond.code yX3_numberOf cX3_numberOf 2 (some .int), Cond.methodLink RL 153 yX5_ticketOf, Cond.instanceMethod yX5_ticketOf, Cond.selects RX5 yX5_ticketOf yX5_ticketOf, Cond.code yX5_ticketOf cX5_ticketOf 3 (some .int), Cond.methodLink RL 154 yX4_ticketState, Cond.instanceMethod yX4_ticketState, Cond.selects RX4 yX4_ticketState yX4_ticketState, Cond.code yX4_ticketState cX4_ticketState 2 (some .int), Cond.methodLink RX4 128 yX3_stateOf, Cond.methodLink RL 157 yX5_ticketState, Cond.instanceMethod yX5_ticketState, Cond.selects RX5 yX5_ticketState yX5_ticketState, Cond.code yX5_ticketState cX5_ticketState 2 (some .int), Cond.methodLink RX5 95 yX5_isTicket, Cond.instanceMethod yX5_isTicket, Cond.selects RX5 yX5_isTicket yX5_isTicket, Cond.code yX5_isTicket cX5_isTicket 2 (some .boolean), Cond.methodLink RL 158 yX4_ticketSize, Cond.instanceMethod yX4_ticketSize, Cond.selects RX4 yX4_ticketSize yX4_ticketSize, Cond.code yX4_ticketSize cX4_ticketSize 2 (some .int), Cond.methodLink RX4 131 yX3_sizeOf, Cond.instanceMethod yX3_sizeOf]
def wsL_law0_r21 : List Cond := [Cond.selects RX3 yX3_sizeOf yX3_sizeOf, Cond.code yX3_sizeOf cX3_sizeOf 2 (some .int), Cond.methodLink RL 161 yX5_ticketSize, Cond.instanceMethod yX5_ticketSize, Cond.selects RX5 yX5_ticketSize yX5_ticketSize, Cond.code yX5_ticketSize cX5_ticketSize 2 (some .int), Cond.methodLink RL 162 yX4_mergedInto, Cond.instanceMethod yX4_mergedInto, Cond.selects RX4 yX4_mergedInto yX4_mergedInto, Cond.code yX4_mergedInto cX4_mergedInto 2 (some .int), Cond.methodLink RX4 134 yX3_targetOf, Cond.instanceMethod yX3_targetOf, Cond.selects RX3 yX3_targetOf yX3_targetOf, Cond.code yX3_targetOf cX3_targetOf 2 (some .int), Cond.methodLink RL 165 yX5_mergedInto, Cond.instanceMethod yX5_mergedInto, Cond.selects RX5 yX5_mergedInto yX5_mergedInto, Cond.code yX5_mergedInto cX5_mergedInto 2 (some .int), Cond.methodLink RL 166 yL_isPlausible, Cond.static yL_isPlausible, Cond.codeWith yL_isPlausible cL_isPlausible 4 (some .int) [(0, 16, 19, 13)], Cond.methodLink RL 66 yX4_isPlausible, Cond.instanceMethod yX4_isPlausible, Cond.selects RX4 yX4_isPlausible yX4_isPlausible]
def wsL_law0_r22 : List Cond := [Cond.code yX4_isPlausible cX4_isPlausible 2 (some .boolean), Cond.methodLink RX4 137 yX4_diagnoser, Cond.instanceMethod yX4_diagnoser, Cond.selects RX4 yX4_diagnoser yX4_diagnoser, Cond.code yX4_diagnoser cX4_diagnoser 1 (some (.object "Alarmgrove$Diagnoser")), Cond.classLink RX4 142 RX0, Cond.instantiable RX0 3, Cond.initialized RX0, Cond.methodLink RX4 177 yX0_init, Cond.instanceMethod yX0_init, Cond.code yX0_init cX0_init 3 none, Cond.methodLink RX0 3 objectInit, Cond.fieldLink RX0 9 "Alarmgrove$Diagnoser" "graph" "LAlarmgrove$Graph;", Cond.fieldLink RX0 15 "Alarmgrove$Diagnoser" "raised" "I", Cond.fieldLink RX0 23 "Alarmgrove$Diagnoser" "plausible" "I", Cond.methodLink RX0 19 yX0_plausibleOf, Cond.static yX0_plausibleOf, Cond.code yX0_plausibleOf cX0_plausibleOf 5 (some .int), Cond.methodLink RX0 65 yX1_users, Cond.instanceMethod yX1_users, Cond.selects RX1 yX1_users yX1_users, Cond.code yX1_users cX1_users 2 (some .int), Cond.methodLink RX4 141 yX0_plausibleNodes, Cond.instanceMethod yX0_plausibleNodes]
def wsL_law0_r23 : List Cond := [Cond.selects RX0 yX0_plausibleNodes yX0_plausibleNodes, Cond.code yX0_plausibleNodes cX0_plausibleNodes 1 (some .int), Cond.methodLink RL 168 yX5_isPlausible, Cond.instanceMethod yX5_isPlausible, Cond.selects RX5 yX5_isPlausible yX5_isPlausible, Cond.code yX5_isPlausible cX5_isPlausible 2 (some .boolean), Cond.methodLink RX5 98 yX5_plausible, Cond.instanceMethod yX5_plausible, Cond.selects RX5 yX5_plausible yX5_plausible, Cond.code yX5_plausible cX5_plausible 4 (some .boolean), Cond.methodLink RL 169 yX4_causes, Cond.instanceMethod yX4_causes, Cond.selects RX4 yX4_causes yX4_causes, Cond.code yX4_causes cX4_causes 1 (some .int), Cond.methodLink RX4 146 yX0_bestBySearch, Cond.instanceMethod yX0_bestBySearch, Cond.selects RX0 yX0_bestBySearch yX0_bestBySearch, Cond.code yX0_bestBySearch cX0_bestBySearch 1 (some .int), Cond.methodLink RX0 26 yX0_search, Cond.static yX0_search, Cond.code yX0_search cX0_search 13 (some .int), Cond.static yX4_nodeAtPlace, Cond.code yX4_nodeAtPlace cX4_nodeAtPlace 4 (some .int), Cond.methodLink RX0 36 yX0_isBetter]
def wsL_law0_r24 : List Cond := [Cond.instanceMethod yX0_isBetter, Cond.selects RX0 yX0_isBetter yX0_isBetter, Cond.code yX0_isBetter cX0_isBetter 8 (some .boolean), Cond.methodLink RX0 30 yJ6_bitCount_0f7a4, Cond.static yJ6_bitCount_0f7a4, Cond.initialized RJ6, Cond.code yJ6_bitCount_0f7a4 cJ6_bitCount_0f7a4 1 (some .int), Cond.constant RJ6 265 (1431655765), Cond.constant RJ6 266 (858993459), Cond.constant RJ6 267 (252645135), Cond.methodLink RX0 59 yX1_explainersOf, Cond.instanceMethod yX1_explainersOf, Cond.selects RX1 yX1_explainersOf yX1_explainersOf, Cond.code yX1_explainersOf cX1_explainersOf 2 (some .int), Cond.methodLink RX0 47 yX1_explainedBy, Cond.instanceMethod yX1_explainedBy, Cond.selects RX1 yX1_explainedBy yX1_explainedBy, Cond.code yX1_explainedBy cX1_explainedBy 2 (some .int), Cond.methodLink RX4 149 yJ6_bitCount_0f7a4, Cond.methodLink RL 172 yX5_causes, Cond.instanceMethod yX5_causes, Cond.selects RX5 yX5_causes yX5_causes, Cond.code yX5_causes cX5_causes 1 (some .int), Cond.methodLink RX5 107 yX5_best]
def wsL_law0_r25 : List Cond := [Cond.instanceMethod yX5_best, Cond.selects RX5 yX5_best yX5_best, Cond.code yX5_best cX5_best 4 (some .int), Cond.methodLink RX5 101 yX5_isBetter, Cond.instanceMethod yX5_isBetter, Cond.selects RX5 yX5_isBetter yX5_isBetter, Cond.code yX5_isBetter cX5_isBetter 5 (some .boolean), Cond.methodLink RX5 104 yX5_explained, Cond.instanceMethod yX5_explained, Cond.selects RX5 yX5_explained yX5_explained, Cond.code yX5_explained cX5_explained 5 (some .int), Cond.methodLink RL 173 yL_cause, Cond.static yL_cause, Cond.codeWith yL_cause cL_cause 4 (some .int) [(0, 9, 12, 13)], Cond.methodLink RL 70 yX4_cause, Cond.instanceMethod yX4_cause, Cond.selects RX4 yX4_cause yX4_cause, Cond.code yX4_cause cX4_cause 2 (some .int), Cond.methodLink RX4 154 yX4_nodeThere, Cond.static yX4_nodeThere, Cond.code yX4_nodeThere cX4_nodeThere 3 (some .int), Cond.methodLink RX4 174 yX4_nodeAtPlace, Cond.methodLink RL 175 yX5_cause, Cond.instanceMethod yX5_cause]
def wsL_law0_r26 : List Cond := [Cond.selects RX5 yX5_cause yX5_cause, Cond.code yX5_cause cX5_cause 3 (some .int), Cond.methodLink RX5 111 yX5_at, Cond.static yX5_at, Cond.code yX5_at cX5_at 5 (some .int), Cond.methodLink RL 176 yL_causeByTrying, Cond.static yL_causeByTrying, Cond.codeWith yL_causeByTrying cL_causeByTrying 4 (some .int) [(0, 9, 12, 13)], Cond.methodLink RL 73 yX4_causeByTrying, Cond.instanceMethod yX4_causeByTrying, Cond.selects RX4 yX4_causeByTrying yX4_causeByTrying, Cond.code yX4_causeByTrying cX4_causeByTrying 2 (some .int), Cond.methodLink RX4 157 yX0_bestByTrying, Cond.instanceMethod yX0_bestByTrying, Cond.selects RX0 yX0_bestByTrying yX0_bestByTrying, Cond.code yX0_bestByTrying cX0_bestByTrying 5 (some .int), Cond.methodLink RX0 40 yX0_explainsAll, Cond.instanceMethod yX0_explainsAll, Cond.selects RX0 yX0_explainsAll yX0_explainsAll, Cond.code yX0_explainsAll cX0_explainsAll 3 (some .boolean), Cond.methodLink RL 178 yX5_causeByTrying, Cond.instanceMethod yX5_causeByTrying, Cond.selects RX5 yX5_causeByTrying yX5_causeByTrying, Cond.code yX5_causeByTrying cX5_causeByTrying 2 (some .int)]
def wsL_law0_r27 : List Cond := [Cond.methodLink RX5 114 yX5_cause, Cond.methodLink RL 179 yX4_greedyCauses, Cond.instanceMethod yX4_greedyCauses, Cond.selects RX4 yX4_greedyCauses yX4_greedyCauses, Cond.code yX4_greedyCauses cX4_greedyCauses 1 (some .int), Cond.methodLink RX4 160 yX0_greedyCount, Cond.instanceMethod yX0_greedyCount, Cond.selects RX0 yX0_greedyCount yX0_greedyCount, Cond.code yX0_greedyCount cX0_greedyCount 3 (some .int), Cond.methodLink RX0 44 yX0_greedyNext, Cond.instanceMethod yX0_greedyNext, Cond.selects RX0 yX0_greedyNext yX0_greedyNext, Cond.code yX0_greedyNext cX0_greedyNext 7 (some .int), Cond.methodLink RL 182 yX5_greedyCauses, Cond.instanceMethod yX5_greedyCauses, Cond.selects RX5 yX5_greedyCauses yX5_greedyCauses, Cond.code yX5_greedyCauses cX5_greedyCauses 3 (some .int), Cond.methodLink RX5 120 yX5_joins, Cond.instanceMethod yX5_joins, Cond.selects RX5 yX5_joins yX5_joins, Cond.code yX5_joins cX5_joins 7 (some .int), Cond.methodLink RX5 117 yX5_explains, Cond.instanceMethod yX5_explains, Cond.selects RX5 yX5_explains yX5_explains]
def wsL_law0_r28 : List Cond := [Cond.code yX5_explains cX5_explains 4 (some .int), Cond.methodLink RL 183 yL_greedyCause, Cond.static yL_greedyCause, Cond.codeWith yL_greedyCause cL_greedyCause 4 (some .int) [(0, 9, 12, 13)], Cond.methodLink RL 76 yX4_greedyCause, Cond.instanceMethod yX4_greedyCause, Cond.selects RX4 yX4_greedyCause yX4_greedyCause, Cond.code yX4_greedyCause cX4_greedyCause 3 (some .int), Cond.methodLink RX4 163 yX0_greedyAt, Cond.instanceMethod yX0_greedyAt, Cond.selects RX0 yX0_greedyAt yX0_greedyAt, Cond.code yX0_greedyAt cX0_greedyAt 5 (some .int), Cond.methodLink RL 185 yX5_greedyCause, Cond.instanceMethod yX5_greedyCause, Cond.selects RX5 yX5_greedyCause yX5_greedyCause, Cond.code yX5_greedyCause cX5_greedyCause 5 (some .int), Cond.methodLink RL 186 yL_causeOf, Cond.static yL_causeOf, Cond.codeWith yL_causeOf cL_causeOf 4 (some .int) [(0, 9, 12, 13)], Cond.methodLink RL 79 yX4_causeOf, Cond.instanceMethod yX4_causeOf, Cond.selects RX4 yX4_causeOf yX4_causeOf, Cond.code yX4_causeOf cX4_causeOf 2 (some .int), Cond.methodLink RX4 171 yX1_explainersOf]
def wsL_law0_r29 : List Cond := [Cond.methodLink RL 188 yX5_causeOf, Cond.instanceMethod yX5_causeOf, Cond.selects RX5 yX5_causeOf yX5_causeOf, Cond.code yX5_causeOf cX5_causeOf 5 (some .int)]
def wsL_law0 : List Cond := (wsL_law0_r1 ++ (wsL_law0_r2 ++ (wsL_law0_r3 ++ (wsL_law0_r4 ++ (wsL_law0_r5 ++ (wsL_law0_r6 ++ (wsL_law0_r7 ++ (wsL_law0_r8 ++ (wsL_law0_r9 ++ (wsL_law0_r10 ++ (wsL_law0_r11 ++ (wsL_law0_r12 ++ (wsL_law0_r13 ++ (wsL_law0_r14 ++ (wsL_law0_r15 ++ (wsL_law0_r16 ++ (wsL_law0_r17 ++ (wsL_law0_r18 ++ (wsL_law0_r19 ++ (wsL_law0_r20 ++ (wsL_law0_r21 ++ (wsL_law0_r22 ++ (wsL_law0_r23 ++ (wsL_law0_r24 ++ (wsL_law0_r25 ++ (wsL_law0_r26 ++ (wsL_law0_r27 ++ (wsL_law0_r28 ++ wsL_law0_r29)))))))))))))))))))))))))))) ++ wsX40 ++ wsX50 ++ wsX10 ++ wsX20 ++ wsX30 ++ wsX00 ++ ([] : List Cond)
def wsL_law : List Cond := wsL_law0 ++ (vx_atS RX4 53 "java/lang/IllegalArgumentException" ["java/lang/RuntimeException", "java/lang/Exception"]).filter goodWord ++ (vx_atS RX4 170 "java/lang/IndexOutOfBoundsException" ["java/lang/RuntimeException", "java/lang/Exception"]).filter goodWord ++ (vx_atS RX4 192 "java/lang/IllegalStateException" ["java/lang/RuntimeException", "java/lang/Exception"]).filter goodWord
abbrev vwCl : List vw_C := [(RX0, TX0, 3), (RX1, TX1, 4), (RX2, TX2, 6), (RX3, TX3, 4), (RX4, TX4, 5), (RX5, TX5, 16)]
end
section
set_option maxRecDepth 20000 in
theorem wsL_law0_r1_in : ∀ w ∈ wsL_law0_r1, w ∈ lw_tbl := fun w h => (goodIn_p wsL_law0_r1 [47, 50] (by decide +kernel) (by decide +kernel) w h).1
set_option maxRecDepth 20000 in
theorem wsL_law0_r2_in : ∀ w ∈ wsL_law0_r2, w ∈ lw_tbl := fun w h => (goodIn_p wsL_law0_r2 [55, 75, 100] (by decide +kernel) (by decide +kernel) w h).1
set_option maxRecDepth 20000 in
theorem wsL_law0_r3_in : ∀ w ∈ wsL_law0_r3, w ∈ lw_tbl := fun w h => (goodIn_p wsL_law0_r3 [657] (by decide +kernel) (by decide +kernel) w h).1
set_option maxRecDepth 20000 in
theorem wsL_law0_r4_in : ∀ w ∈ wsL_law0_r4, w ∈ lw_tbl := fun w h => (goodIn_p wsL_law0_r4 [269, 272, 344, 226, 203] (by decide +kernel) (by decide +kernel) w h).1
set_option maxRecDepth 20000 in
theorem wsL_law0_r5_in : ∀ w ∈ wsL_law0_r5, w ∈ lw_tbl := fun w h => (goodIn_p wsL_law0_r5 [364, 369, 372, 375, 715, 718, 721] (by decide +kernel) (by decide +kernel) w h).1
set_option maxRecDepth 20000 in
theorem wsL_law0_r6_in : ∀ w ∈ wsL_law0_r6, w ∈ lw_tbl := fun w h => (goodIn_p wsL_law0_r6 [725, 729, 711, 382, 386] (by decide +kernel) (by decide +kernel) w h).1
set_option maxRecDepth 20000 in
theorem wsL_law0_r7_in : ∀ w ∈ wsL_law0_r7, w ∈ lw_tbl := fun w h => (goodIn_p wsL_law0_r7 [733, 393, 397, 737, 404] (by decide +kernel) (by decide +kernel) w h).1
set_option maxRecDepth 20000 in
theorem wsL_law0_r8_in : ∀ w ∈ wsL_law0_r8, w ∈ lw_tbl := fun w h => (goodIn_p wsL_law0_r8 [741, 411, 415, 745] (by decide +kernel) (by decide +kernel) w h).1
set_option maxRecDepth 20000 in
theorem wsL_law0_r9_in : ∀ w ∈ wsL_law0_r9, w ∈ lw_tbl := fun w h => (goodIn_p wsL_law0_r9 [422, 425, 749, 134, 753] (by decide +kernel) (by decide +kernel) w h).1
set_option maxRecDepth 20000 in
theorem wsL_law0_r10_in : ∀ w ∈ wsL_law0_r10, w ∈ lw_tbl := fun w h => (goodIn_p wsL_law0_r10 [434, 438, 442, 462, 466, 470] (by decide +kernel) (by decide +kernel) w h).1
set_option maxRecDepth 20000 in
theorem wsL_law0_r11_in : ∀ w ∈ wsL_law0_r11, w ∈ lw_tbl := fun w h => (goodIn_p wsL_law0_r11 [474, 478, 482, 486, 490, 757] (by decide +kernel) (by decide +kernel) w h).1
set_option maxRecDepth 20000 in
theorem wsL_law0_r12_in : ∀ w ∈ wsL_law0_r12, w ∈ lw_tbl := fun w h => (goodIn_p wsL_law0_r12 [761, 765, 497, 501] (by decide +kernel) (by decide +kernel) w h).1
set_option maxRecDepth 20000 in
theorem wsL_law0_r13_in : ∀ w ∈ wsL_law0_r13, w ∈ lw_tbl := fun w h => (goodIn_p wsL_law0_r13 [505, 769, 772, 512, 516, 520] (by decide +kernel) (by decide +kernel) w h).1
set_option maxRecDepth 20000 in
theorem wsL_law0_r14_in : ∀ w ∈ wsL_law0_r14, w ∈ lw_tbl := fun w h => (goodIn_p wsL_law0_r14 [776, 780, 784, 527, 788] (by decide +kernel) (by decide +kernel) w h).1
set_option maxRecDepth 20000 in
theorem wsL_law0_r15_in : ∀ w ∈ wsL_law0_r15, w ∈ lw_tbl := fun w h => (goodIn_p wsL_law0_r15 [535, 792, 138, 142, 796] (by decide +kernel) (by decide +kernel) w h).1
set_option maxRecDepth 20000 in
theorem wsL_law0_r16_in : ∀ w ∈ wsL_law0_r16, w ∈ lw_tbl := fun w h => (goodIn_p wsL_law0_r16 [542, 546, 551, 800, 804] (by decide +kernel) (by decide +kernel) w h).1
set_option maxRecDepth 20000 in
theorem wsL_law0_r17_in : ∀ w ∈ wsL_law0_r17, w ∈ lw_tbl := fun w h => (goodIn_p wsL_law0_r17 [558, 562, 808, 569, 573] (by decide +kernel) (by decide +kernel) w h).1
set_option maxRecDepth 20000 in
theorem wsL_law0_r18_in : ∀ w ∈ wsL_law0_r18, w ∈ lw_tbl := fun w h => (goodIn_p wsL_law0_r18 [812, 580, 584, 816, 146] (by decide +kernel) (by decide +kernel) w h).1
set_option maxRecDepth 20000 in
theorem wsL_law0_r19_in : ∀ w ∈ wsL_law0_r19, w ∈ lw_tbl := fun w h => (goodIn_p wsL_law0_r19 [150, 154, 158, 820, 591] (by decide +kernel) (by decide +kernel) w h).1
set_option maxRecDepth 20000 in
theorem wsL_law0_r20_in : ∀ w ∈ wsL_law0_r20, w ∈ lw_tbl := fun w h => (goodIn_p wsL_law0_r20 [595, 824, 162, 828, 832, 167] (by decide +kernel) (by decide +kernel) w h).1
set_option maxRecDepth 20000 in
theorem wsL_law0_r21_in : ∀ w ∈ wsL_law0_r21, w ∈ lw_tbl := fun w h => (goodIn_p wsL_law0_r21 [171, 836, 175, 179, 840] (by decide +kernel) (by decide +kernel) w h).1
set_option maxRecDepth 20000 in
theorem wsL_law0_r22_in : ∀ w ∈ wsL_law0_r22, w ∈ lw_tbl := fun w h => (goodIn_p wsL_law0_r22 [602, 187, 192, 196, 200] (by decide +kernel) (by decide +kernel) w h).1
set_option maxRecDepth 20000 in
theorem wsL_law0_r23_in : ∀ w ∈ wsL_law0_r23, w ∈ lw_tbl := fun w h => (goodIn_p wsL_law0_r23 [606, 844, 848, 183, 217, 220, 223] (by decide +kernel) (by decide +kernel) w h).1
set_option maxRecDepth 20000 in
theorem wsL_law0_r24_in : ∀ w ∈ wsL_law0_r24, w ∈ lw_tbl := fun w h => (goodIn_p wsL_law0_r24 [231, 234, 242, 247, 852] (by decide +kernel) (by decide +kernel) w h).1
set_option maxRecDepth 20000 in
theorem wsL_law0_r25_in : ∀ w ∈ wsL_law0_r25, w ∈ lw_tbl := fun w h => (goodIn_p wsL_law0_r25 [856, 860, 864, 613, 616] (by decide +kernel) (by decide +kernel) w h).1
set_option maxRecDepth 20000 in
theorem wsL_law0_r26_in : ∀ w ∈ wsL_law0_r26, w ∈ lw_tbl := fun w h => (goodIn_p wsL_law0_r26 [868, 871, 625, 629, 633, 875] (by decide +kernel) (by decide +kernel) w h).1
set_option maxRecDepth 20000 in
theorem wsL_law0_r27_in : ∀ w ∈ wsL_law0_r27, w ∈ lw_tbl := fun w h => (goodIn_p wsL_law0_r27 [252, 256, 260, 880, 884] (by decide +kernel) (by decide +kernel) w h).1
set_option maxRecDepth 20000 in
theorem wsL_law0_r28_in : ∀ w ∈ wsL_law0_r28, w ∈ lw_tbl := fun w h => (goodIn_p wsL_law0_r28 [888, 640, 644, 892, 651] (by decide +kernel) (by decide +kernel) w h).1
set_option maxRecDepth 20000 in
theorem wsL_law0_r29_in : ∀ w ∈ wsL_law0_r29, w ∈ lw_tbl := fun w h => (goodIn_p wsL_law0_r29 [896] (by decide +kernel) (by decide +kernel) w h).1
theorem wsX40_in9 : ∀ w ∈ wsX40, w ∈ lw_tbl := by decide +kernel
theorem wsX50_in9 : ∀ w ∈ wsX50, w ∈ lw_tbl := by decide +kernel
theorem wsX10_in9 : ∀ w ∈ wsX10, w ∈ lw_tbl := by decide +kernel
theorem wsX20_in9 : ∀ w ∈ wsX20, w ∈ lw_tbl := by decide +kernel
theorem wsX30_in9 : ∀ w ∈ wsX30, w ∈ lw_tbl := by decide +kernel
theorem wsX00_in9 : ∀ w ∈ wsX00, w ∈ lw_tbl := by decide +kernel
theorem wsL_law_in0 : ∀ w ∈ wsL_law0, w ∈ lw_tbl := fun w => fun h => (List.mem_append.mp h).elim (fun h => (List.mem_append.mp h).elim (fun h => (List.mem_append.mp h).elim (fun h => (List.mem_append.mp h).elim (fun h => (List.mem_append.mp h).elim (fun h => (List.mem_append.mp h).elim (fun h => (List.mem_append.mp h).elim (fun h => (List.mem_append.mp h).elim (wsL_law0_r1_in w) (fun h => (List.mem_append.mp h).elim (wsL_law0_r2_in w) (fun h => (List.mem_append.mp h).elim (wsL_law0_r3_in w) (fun h => (List.mem_append.mp h).elim (wsL_law0_r4_in w) (fun h => (List.mem_append.mp h).elim (wsL_law0_r5_in w) (fun h => (List.mem_append.mp h).elim (wsL_law0_r6_in w) (fun h => (List.mem_append.mp h).elim (wsL_law0_r7_in w) (fun h => (List.mem_append.mp h).elim (wsL_law0_r8_in w) (fun h => (List.mem_append.mp h).elim (wsL_law0_r9_in w) (fun h => (List.mem_append.mp h).elim (wsL_law0_r10_in w) (fun h => (List.mem_append.mp h).elim (wsL_law0_r11_in w) (fun h => (List.mem_append.mp h).elim (wsL_law0_r12_in w) (fun h => (List.mem_append.mp h).elim (wsL_law0_r13_in w) (fun h => (List.mem_append.mp h).elim (wsL_law0_r14_in w) (fun h => (List.mem_append.mp h).elim (wsL_law0_r15_in w) (fun h => (List.mem_append.mp h).elim (wsL_law0_r16_in w) (fun h => (List.mem_append.mp h).elim (wsL_law0_r17_in w) (fun h => (List.mem_append.mp h).elim (wsL_law0_r18_in w) (fun h => (List.mem_append.mp h).elim (wsL_law0_r19_in w) (fun h => (List.mem_append.mp h).elim (wsL_law0_r20_in w) (fun h => (List.mem_append.mp h).elim (wsL_law0_r21_in w) (fun h => (List.mem_append.mp h).elim (wsL_law0_r22_in w) (fun h => (List.mem_append.mp h).elim (wsL_law0_r23_in w) (fun h => (List.mem_append.mp h).elim (wsL_law0_r24_in w) (fun h => (List.mem_append.mp h).elim (wsL_law0_r25_in w) (fun h => (List.mem_append.mp h).elim (wsL_law0_r26_in w) (fun h => (List.mem_append.mp h).elim (wsL_law0_r27_in w) (fun h => (List.mem_append.mp h).elim (wsL_law0_r28_in w) (fun h => wsL_law0_r29_in w h))))))))))))))))))))))))))))) (wsX40_in9 w)) (wsX50_in9 w)) (wsX10_in9 w)) (wsX20_in9 w)) (wsX30_in9 w)) (wsX00_in9 w)) (fun h => absurd h List.not_mem_nil)
set_option maxRecDepth 20000 in
theorem wsL_law_x0 : ∀ w ∈ (vx_atS RX4 53 "java/lang/IllegalArgumentException" ["java/lang/RuntimeException", "java/lang/Exception"]).filter goodWord, w ∈ lw_tbl := by decide +kernel
theorem wsL_law_x1 : ∀ w ∈ (vx_atS RX4 170 "java/lang/IndexOutOfBoundsException" ["java/lang/RuntimeException", "java/lang/Exception"]).filter goodWord, w ∈ lw_tbl := by decide +kernel
theorem wsL_law_x2 : ∀ w ∈ (vx_atS RX4 192 "java/lang/IllegalStateException" ["java/lang/RuntimeException", "java/lang/Exception"]).filter goodWord, w ∈ lw_tbl := by decide +kernel
theorem wsL_law_in : ∀ w ∈ wsL_law, w ∈ lw_tbl := fun w h => (List.mem_append.mp h).elim (fun h => (List.mem_append.mp h).elim (fun h => (List.mem_append.mp h).elim (fun h => wsL_law_in0 w h) (fun h => wsL_law_x0 w h)) (fun h => wsL_law_x1 w h)) (fun h => wsL_law_x2 w h)
end
section
set_option maxRecDepth 20000 in
theorem ggX0_init_X0_plausibleOf : GoodIn wsX0_init wsX0_plausibleOf := goodIn_r _ [10, 11, 12, 13, 14, 15, 16, 17, 18, 19, 23, 24, 25, 26] (by decide +kernel) (by decide +kernel)
set_option maxRecDepth 20000 in
theorem gX0_init_X0_plausibleOf : GoodIn wsX0_init (va_wsS RX0 19 yX0_plausibleOf wsX0_plausibleOf) := goodIn_app (goodIn_of _ (by decide +kernel)) ggX0_init_X0_plausibleOf
set_option maxRecDepth 20000 in
theorem ggX0_bestBySearch_X0_search : GoodIn wsX0_bestBySearch wsX0_search := goodIn_r _ [6, 7, 8, 9, 10, 11, 12, 13, 14, 15, 16, 17, 18, 19, 5, 20, 1, 21, 22, 23, 24, 25, 26, 27, 28, 29, 30, 31, 32, 33, 34, 35, 36, 37, 38, 3, 4, 39, 40, 41, 42, 43, 44, 45] (by decide +kernel) (by decide +kernel)
set_option maxRecDepth 20000 in
theorem gX0_bestBySearch_X0_search : GoodIn wsX0_bestBySearch (va_wsS RX0 26 yX0_search wsX0_search) := goodIn_app (goodIn_of _ (by decide +kernel)) ggX0_bestBySearch_X0_search
set_option maxRecDepth 20000 in
theorem ggX0_bestByTrying_J6_bitCount_0f7a4 : GoodIn wsX0_bestByTrying wsJ6_bitCount_0f7a4 := goodIn_r _ [6, 7, 8, 9] (by decide +kernel) (by decide +kernel)
set_option maxRecDepth 20000 in
theorem gX0_bestByTrying_J6_bitCount_0f7a4 : GoodIn wsX0_bestByTrying (va_wsS RX0 30 yJ6_bitCount_0f7a4 wsJ6_bitCount_0f7a4) := goodIn_app (goodIn_of _ (by decide +kernel)) ggX0_bestByTrying_J6_bitCount_0f7a4
set_option maxRecDepth 20000 in
theorem ggX0_bestByTrying_X0_isBetter : GoodIn wsX0_bestByTrying wsX0_isBetter := goodIn_r _ [14, 1, 3, 4, 5, 6, 7, 8, 9, 15, 16, 17, 18, 19, 20, 21, 22, 23, 35, 36, 37] (by decide +kernel) (by decide +kernel)
set_option maxRecDepth 20000 in
theorem gX0_bestByTrying_X0_isBetter : GoodIn wsX0_bestByTrying (wsV RX0 36 RX0 yX0_isBetter wsX0_isBetter) := goodIn_app (goodIn_of _ (by decide +kernel)) ggX0_bestByTrying_X0_isBetter
set_option maxRecDepth 20000 in
theorem ggX0_bestByTrying_X0_explainsAll : GoodIn wsX0_bestByTrying wsX0_explainsAll := goodIn_r _ [27, 1, 28, 19, 16, 20, 21, 22, 23, 29, 30, 31, 32, 33, 34, 35, 36, 37, 38, 39, 40, 41] (by decide +kernel) (by decide +kernel)
set_option maxRecDepth 20000 in
theorem gX0_bestByTrying_X0_explainsAll : GoodIn wsX0_bestByTrying (wsV RX0 40 RX0 yX0_explainsAll wsX0_explainsAll) := goodIn_app (goodIn_of _ (by decide +kernel)) ggX0_bestByTrying_X0_explainsAll
set_option maxRecDepth 20000 in
theorem ggX0_greedyCount_X0_greedyNext : GoodIn wsX0_greedyCount wsX0_greedyNext := goodIn_r _ [7, 8, 2, 1, 9, 10, 11, 12, 13, 14, 15, 16, 17, 18, 19, 20, 21, 22, 23, 24, 25, 26, 27, 28, 29, 30, 31, 32, 33, 34] (by decide +kernel) (by decide +kernel)
set_option maxRecDepth 20000 in
theorem gX0_greedyCount_X0_greedyNext : GoodIn wsX0_greedyCount (wsV RX0 44 RX0 yX0_greedyNext wsX0_greedyNext) := goodIn_app (goodIn_of _ (by decide +kernel)) ggX0_greedyCount_X0_greedyNext
set_option maxRecDepth 20000 in
theorem ggX0_greedyCount_X1_explainedBy : GoodIn wsX0_greedyCount wsX1_explainedBy := goodIn_r _ [19, 20, 13, 10, 14, 31, 32, 33, 34] (by decide +kernel) (by decide +kernel)
set_option maxRecDepth 20000 in
theorem gX0_greedyCount_X1_explainedBy : GoodIn wsX0_greedyCount (wsV RX0 47 RX1 yX1_explainedBy wsX1_explainedBy) := goodIn_app (goodIn_of _ (by decide +kernel)) ggX0_greedyCount_X1_explainedBy
set_option maxRecDepth 20000 in
theorem ggX0_greedyAt_X0_greedyNext : GoodIn wsX0_greedyAt wsX0_greedyNext := goodIn_r _ [7, 8, 2, 1, 9, 10, 11, 12, 13, 14, 15, 16, 17, 18, 19, 20, 21, 22, 23, 24, 25, 26, 27, 28, 29, 30, 31, 32, 33, 34] (by decide +kernel) (by decide +kernel)
set_option maxRecDepth 20000 in
theorem gX0_greedyAt_X0_greedyNext : GoodIn wsX0_greedyAt (wsV RX0 44 RX0 yX0_greedyNext wsX0_greedyNext) := goodIn_app (goodIn_of _ (by decide +kernel)) ggX0_greedyAt_X0_greedyNext
set_option maxRecDepth 20000 in
theorem ggX0_greedyAt_X1_explainedBy : GoodIn wsX0_greedyAt wsX1_explainedBy := goodIn_r _ [19, 20, 13, 10, 14, 31, 32, 33, 34] (by decide +kernel) (by decide +kernel)
set_option maxRecDepth 20000 in
theorem gX0_greedyAt_X1_explainedBy : GoodIn wsX0_greedyAt (wsV RX0 47 RX1 yX1_explainedBy wsX1_explainedBy) := goodIn_app (goodIn_of _ (by decide +kernel)) ggX0_greedyAt_X1_explainedBy
set_option maxRecDepth 20000 in
theorem ggX0_greedyNext_X4_has : GoodIn wsX0_greedyNext wsX4_has := goodIn_r _ [6, 7, 8, 5, 9] (by decide +kernel) (by decide +kernel)
set_option maxRecDepth 20000 in
theorem gX0_greedyNext_X4_has_n52 : GoodIn wsX0_greedyNext (wsX4_has) := ggX0_greedyNext_X4_has
set_option maxRecDepth 20000 in
theorem ggX0_greedyNext_X1_explainedBy : GoodIn wsX0_greedyNext wsX1_explainedBy := goodIn_r _ [14, 15, 8, 5, 9, 26, 27, 28, 29] (by decide +kernel) (by decide +kernel)
set_option maxRecDepth 20000 in
theorem gX0_greedyNext_X1_explainedBy : GoodIn wsX0_greedyNext (wsV RX0 47 RX1 yX1_explainedBy wsX1_explainedBy) := goodIn_app (goodIn_of _ (by decide +kernel)) ggX0_greedyNext_X1_explainedBy
set_option maxRecDepth 20000 in
theorem ggX0_greedyNext_J6_bitCount_0f7a4 : GoodIn wsX0_greedyNext wsJ6_bitCount_0f7a4 := goodIn_r _ [19, 20, 21, 22] (by decide +kernel) (by decide +kernel)
set_option maxRecDepth 20000 in
theorem gX0_greedyNext_J6_bitCount_0f7a4 : GoodIn wsX0_greedyNext (va_wsS RX0 30 yJ6_bitCount_0f7a4 wsJ6_bitCount_0f7a4) := goodIn_app (goodIn_of _ (by decide +kernel)) ggX0_greedyNext_J6_bitCount_0f7a4
set_option maxRecDepth 20000 in
theorem ggX0_search_X4_nodeAtPlace : GoodIn wsX0_search wsX4_nodeAtPlace := goodIn_r _ [4, 5, 6, 3, 7, 8, 9, 10] (by decide +kernel) (by decide +kernel)
set_option maxRecDepth 20000 in
theorem gX0_search_X4_nodeAtPlace_n55 : GoodIn wsX0_search (wsX4_nodeAtPlace) := ggX0_search_X4_nodeAtPlace
set_option maxRecDepth 20000 in
theorem ggX0_search_X0_isBetter : GoodIn wsX0_search wsX0_isBetter := goodIn_r _ [15, 16, 17, 18, 19, 20, 21, 22, 23, 2, 3, 4, 5, 6, 7, 8, 9, 10, 37, 38, 39] (by decide +kernel) (by decide +kernel)
set_option maxRecDepth 20000 in
theorem gX0_search_X0_isBetter : GoodIn wsX0_search (wsV RX0 36 RX0 yX0_isBetter wsX0_isBetter) := goodIn_app (goodIn_of _ (by decide +kernel)) ggX0_search_X0_isBetter
set_option maxRecDepth 20000 in
theorem ggX0_search_X1_explainersOf : GoodIn wsX0_search wsX1_explainersOf := goodIn_r _ [28, 29, 9, 3, 10, 40, 41, 42, 43] (by decide +kernel) (by decide +kernel)
set_option maxRecDepth 20000 in
theorem gX0_search_X1_explainersOf : GoodIn wsX0_search (wsV RX0 59 RX1 yX1_explainersOf wsX1_explainersOf) := goodIn_app (goodIn_of _ (by decide +kernel)) ggX0_search_X1_explainersOf
set_option maxRecDepth 20000 in
theorem ggX0_search_J6_bitCount_0f7a4 : GoodIn wsX0_search wsJ6_bitCount_0f7a4 := goodIn_r _ [20, 21, 22, 23] (by decide +kernel) (by decide +kernel)
set_option maxRecDepth 20000 in
theorem gX0_search_J6_bitCount_0f7a4 : GoodIn wsX0_search (va_wsS RX0 30 yJ6_bitCount_0f7a4 wsJ6_bitCount_0f7a4) := goodIn_app (goodIn_of _ (by decide +kernel)) ggX0_search_J6_bitCount_0f7a4
set_option maxRecDepth 20000 in
theorem ggX0_search_X4_has : GoodIn wsX0_search wsX4_has := goodIn_r _ [7, 8, 9, 3, 10] (by decide +kernel) (by decide +kernel)
set_option maxRecDepth 20000 in
theorem gX0_search_X4_has_n52 : GoodIn wsX0_search (wsX4_has) := ggX0_search_X4_has
set_option maxRecDepth 20000 in
theorem ggX0_search_X4_only : GoodIn wsX0_search wsX4_only := goodIn_r _ [10] (by decide +kernel) (by decide +kernel)
set_option maxRecDepth 20000 in
theorem gX0_search_X4_only_n62 : GoodIn wsX0_search (wsX4_only) := ggX0_search_X4_only
set_option maxRecDepth 20000 in
theorem ggX0_search_X1_explainedBy : GoodIn wsX0_search wsX1_explainedBy := goodIn_r _ [33, 34, 9, 3, 10, 40, 41, 42, 43] (by decide +kernel) (by decide +kernel)
set_option maxRecDepth 20000 in
theorem gX0_search_X1_explainedBy : GoodIn wsX0_search (wsV RX0 47 RX1 yX1_explainedBy wsX1_explainedBy) := goodIn_app (goodIn_of _ (by decide +kernel)) ggX0_search_X1_explainedBy
set_option maxRecDepth 20000 in
theorem ggX0_search_X0_search : GoodIn wsX0_search wsX0_search := goodIn_r _ [0, 1, 2, 3, 4, 5, 6, 7, 8, 9, 10, 11, 12, 13, 14, 15, 16, 17, 18, 19, 20, 21, 22, 23, 24, 25, 26, 27, 28, 29, 30, 31, 32, 33, 34, 35, 36, 37, 38, 39, 40, 41, 42, 43] (by decide +kernel) (by decide +kernel)
set_option maxRecDepth 20000 in
theorem gX0_search_X0_search : GoodIn wsX0_search (va_wsS RX0 26 yX0_search wsX0_search) := goodIn_app (goodIn_of _ (by decide +kernel)) ggX0_search_X0_search
set_option maxRecDepth 20000 in
theorem ggX0_isBetter_J6_bitCount_0f7a4 : GoodIn wsX0_isBetter wsJ6_bitCount_0f7a4 := goodIn_r _ [5, 6, 7, 8] (by decide +kernel) (by decide +kernel)
set_option maxRecDepth 20000 in
theorem gX0_isBetter_J6_bitCount_0f7a4 : GoodIn wsX0_isBetter (va_wsS RX0 30 yJ6_bitCount_0f7a4 wsJ6_bitCount_0f7a4) := goodIn_app (goodIn_of _ (by decide +kernel)) ggX0_isBetter_J6_bitCount_0f7a4
set_option maxRecDepth 20000 in
theorem ggX0_isBetter_X4_nodeAtPlace : GoodIn wsX0_isBetter wsX4_nodeAtPlace := goodIn_r _ [11, 12, 13, 10, 14, 15, 16, 17] (by decide +kernel) (by decide +kernel)
set_option maxRecDepth 20000 in
theorem gX0_isBetter_X4_nodeAtPlace_n55 : GoodIn wsX0_isBetter (wsX4_nodeAtPlace) := ggX0_isBetter_X4_nodeAtPlace
set_option maxRecDepth 20000 in
theorem ggX0_isBetter_X4_has : GoodIn wsX0_isBetter wsX4_has := goodIn_r _ [14, 15, 16, 10, 17] (by decide +kernel) (by decide +kernel)
set_option maxRecDepth 20000 in
theorem gX0_isBetter_X4_has_n52 : GoodIn wsX0_isBetter (wsX4_has) := ggX0_isBetter_X4_has
set_option maxRecDepth 20000 in
theorem ggX0_explainsAll_X4_has : GoodIn wsX0_explainsAll wsX4_has := goodIn_r _ [5, 6, 7, 4, 8] (by decide +kernel) (by decide +kernel)
set_option maxRecDepth 20000 in
theorem gX0_explainsAll_X4_has_n52 : GoodIn wsX0_explainsAll (wsX4_has) := ggX0_explainsAll_X4_has
set_option maxRecDepth 20000 in
theorem ggX0_explainsAll_X1_explainersOf : GoodIn wsX0_explainsAll wsX1_explainersOf := goodIn_r _ [13, 14, 7, 4, 8, 18, 19, 20, 21] (by decide +kernel) (by decide +kernel)
set_option maxRecDepth 20000 in
theorem gX0_explainsAll_X1_explainersOf : GoodIn wsX0_explainsAll (wsV RX0 59 RX1 yX1_explainersOf wsX1_explainersOf) := goodIn_app (goodIn_of _ (by decide +kernel)) ggX0_explainsAll_X1_explainersOf
set_option maxRecDepth 20000 in
theorem ggX0_plausibleOf_X1_users : GoodIn wsX0_plausibleOf wsX1_users := goodIn_r _ [5, 6, 10, 11, 12, 13] (by decide +kernel) (by decide +kernel)
set_option maxRecDepth 20000 in
theorem gX0_plausibleOf_X1_users : GoodIn wsX0_plausibleOf (wsV RX0 65 RX1 yX1_users wsX1_users) := goodIn_app (goodIn_of _ (by decide +kernel)) ggX0_plausibleOf_X1_users
set_option maxRecDepth 20000 in
theorem ggX0_plausibleOf_X4_only : GoodIn wsX0_plausibleOf wsX4_only := goodIn_r _ [9] (by decide +kernel) (by decide +kernel)
set_option maxRecDepth 20000 in
theorem gX0_plausibleOf_X4_only_n62 : GoodIn wsX0_plausibleOf (wsX4_only) := ggX0_plausibleOf_X4_only
set_option maxRecDepth 20000 in
theorem ggX1_explainersOf_X4_only : GoodIn wsX1_explainersOf wsX4_only := goodIn_r _ [4] (by decide +kernel) (by decide +kernel)
set_option maxRecDepth 20000 in
theorem gX1_explainersOf_X4_only_n24 : GoodIn wsX1_explainersOf (wsX4_only) := ggX1_explainersOf_X4_only
set_option maxRecDepth 20000 in
theorem ggX1_explainedBy_X4_only : GoodIn wsX1_explainedBy wsX4_only := goodIn_r _ [4] (by decide +kernel) (by decide +kernel)
set_option maxRecDepth 20000 in
theorem gX1_explainedBy_X4_only_n24 : GoodIn wsX1_explainedBy (wsX4_only) := ggX1_explainedBy_X4_only
set_option maxRecDepth 20000 in
theorem ggX1_link_X4_has : GoodIn wsX1_link wsX4_has := goodIn_r _ [5, 6, 7, 4, 8] (by decide +kernel) (by decide +kernel)
set_option maxRecDepth 20000 in
theorem gX1_link_X4_has_n28 : GoodIn wsX1_link (wsX4_has) := ggX1_link_X4_has
set_option maxRecDepth 20000 in
theorem ggX1_link_X4_only : GoodIn wsX1_link wsX4_only := goodIn_r _ [8] (by decide +kernel) (by decide +kernel)
set_option maxRecDepth 20000 in
theorem gX1_link_X4_only_n24 : GoodIn wsX1_link (wsX4_only) := ggX1_link_X4_only
set_option maxRecDepth 20000 in
theorem ggX1_link_X1_followAll : GoodIn wsX1_link wsX1_followAll := goodIn_r _ [13, 14, 1, 15, 2, 16, 17, 12, 18, 7, 4, 8, 19, 20, 21, 3, 5, 6, 22, 23, 24, 25] (by decide +kernel) (by decide +kernel)
set_option maxRecDepth 20000 in
theorem gX1_link_X1_followAll : GoodIn wsX1_link (wsV RX1 32 RX1 yX1_followAll wsX1_followAll) := goodIn_app (goodIn_of _ (by decide +kernel)) ggX1_link_X1_followAll
set_option maxRecDepth 20000 in
theorem ggX1_unlink_X4_has : GoodIn wsX1_unlink wsX4_has := goodIn_r _ [5, 6, 7, 4, 8] (by decide +kernel) (by decide +kernel)
set_option maxRecDepth 20000 in
theorem gX1_unlink_X4_has_n28 : GoodIn wsX1_unlink (wsX4_has) := ggX1_unlink_X4_has
set_option maxRecDepth 20000 in
theorem ggX1_unlink_X4_only : GoodIn wsX1_unlink wsX4_only := goodIn_r _ [8] (by decide +kernel) (by decide +kernel)
set_option maxRecDepth 20000 in
theorem gX1_unlink_X4_only_n24 : GoodIn wsX1_unlink (wsX4_only) := ggX1_unlink_X4_only
set_option maxRecDepth 20000 in
theorem ggX1_unlink_X1_followAll : GoodIn wsX1_unlink wsX1_followAll := goodIn_r _ [13, 14, 1, 15, 2, 16, 17, 12, 18, 7, 4, 8, 19, 20, 21, 3, 5, 6, 22, 23, 24, 25] (by decide +kernel) (by decide +kernel)
set_option maxRecDepth 20000 in
theorem gX1_unlink_X1_followAll : GoodIn wsX1_unlink (wsV RX1 32 RX1 yX1_followAll wsX1_followAll) := goodIn_app (goodIn_of _ (by decide +kernel)) ggX1_unlink_X1_followAll
set_option maxRecDepth 20000 in
theorem ggX1_longestWayDown_X4_only : GoodIn wsX1_longestWayDown wsX4_only := goodIn_r _ [4] (by decide +kernel) (by decide +kernel)
set_option maxRecDepth 20000 in
theorem gX1_longestWayDown_X4_only_n24 : GoodIn wsX1_longestWayDown (wsX4_only) := ggX1_longestWayDown_X4_only
set_option maxRecDepth 20000 in
theorem ggX1_longestWayDown_X1_step : GoodIn wsX1_longestWayDown wsX1_step := goodIn_r _ [8, 9, 3, 10, 11, 2, 4] (by decide +kernel) (by decide +kernel)
set_option maxRecDepth 20000 in
theorem gX1_longestWayDown_X1_step : GoodIn wsX1_longestWayDown (va_wsS RX1 35 yX1_step wsX1_step) := goodIn_app (goodIn_of _ (by decide +kernel)) ggX1_longestWayDown_X1_step
set_option maxRecDepth 20000 in
theorem ggX1_followAll_X1_follow : GoodIn wsX1_followAll wsX1_follow := goodIn_r _ [8, 9, 10, 11, 12, 13, 7, 14, 15, 16, 17] (by decide +kernel) (by decide +kernel)
set_option maxRecDepth 20000 in
theorem gX1_followAll_X1_follow : GoodIn wsX1_followAll (va_wsS RX1 39 yX1_follow wsX1_follow) := goodIn_app (goodIn_of _ (by decide +kernel)) ggX1_followAll_X1_follow
set_option maxRecDepth 20000 in
theorem ggX1_follow_X4_only : GoodIn wsX1_follow wsX4_only := goodIn_r _ [3] (by decide +kernel) (by decide +kernel)
set_option maxRecDepth 20000 in
theorem gX1_follow_X4_only_n24 : GoodIn wsX1_follow (wsX4_only) := ggX1_follow_X4_only
set_option maxRecDepth 20000 in
theorem ggX1_follow_X1_step : GoodIn wsX1_follow wsX1_step := goodIn_r _ [7, 8, 2, 9, 10, 1, 3] (by decide +kernel) (by decide +kernel)
set_option maxRecDepth 20000 in
theorem gX1_follow_X1_step : GoodIn wsX1_follow (va_wsS RX1 35 yX1_step wsX1_step) := goodIn_app (goodIn_of _ (by decide +kernel)) ggX1_follow_X1_step
set_option maxRecDepth 20000 in
theorem ggX1_step_X4_has : GoodIn wsX1_step wsX4_has := goodIn_r _ [3, 4, 5, 2, 6] (by decide +kernel) (by decide +kernel)
set_option maxRecDepth 20000 in
theorem gX1_step_X4_has_n28 : GoodIn wsX1_step (wsX4_has) := ggX1_step_X4_has
set_option maxRecDepth 20000 in
theorem ggX2_addRaise_X2_add : GoodIn wsX2_addRaise wsX2_add := goodIn_r _ [6, 7, 8, 9, 10, 11, 12, 13, 14, 15, 16, 17] (by decide +kernel) (by decide +kernel)
set_option maxRecDepth 20000 in
theorem gX2_addRaise_X2_add : GoodIn wsX2_addRaise (wsV RX2 31 RX2 yX2_add wsX2_add) := goodIn_app (goodIn_of _ (by decide +kernel)) ggX2_addRaise_X2_add
set_option maxRecDepth 20000 in
theorem ggX2_addClear_X2_add : GoodIn wsX2_addClear wsX2_add := goodIn_r _ [6, 7, 8, 9, 10, 11, 12, 13, 14, 15, 16, 17] (by decide +kernel) (by decide +kernel)
set_option maxRecDepth 20000 in
theorem gX2_addClear_X2_add : GoodIn wsX2_addClear (wsV RX2 31 RX2 yX2_add wsX2_add) := goodIn_app (goodIn_of _ (by decide +kernel)) ggX2_addClear_X2_add
set_option maxRecDepth 20000 in
theorem ggX3_stateOf_X3_isUsed : GoodIn wsX3_stateOf wsX3_isUsed := goodIn_r _ [7, 8, 9, 10, 11, 12] (by decide +kernel) (by decide +kernel)
set_option maxRecDepth 20000 in
theorem gX3_stateOf_X3_isUsed : GoodIn wsX3_stateOf (wsV RX3 25 RX3 yX3_isUsed wsX3_isUsed) := goodIn_app (goodIn_of _ (by decide +kernel)) ggX3_stateOf_X3_isUsed
set_option maxRecDepth 20000 in
theorem ggX3_sizeOf_X3_isUsed : GoodIn wsX3_sizeOf wsX3_isUsed := goodIn_r _ [6, 7, 8, 9, 10, 11] (by decide +kernel) (by decide +kernel)
set_option maxRecDepth 20000 in
theorem gX3_sizeOf_X3_isUsed : GoodIn wsX3_sizeOf (wsV RX3 25 RX3 yX3_isUsed wsX3_isUsed) := goodIn_app (goodIn_of _ (by decide +kernel)) ggX3_sizeOf_X3_isUsed
set_option maxRecDepth 20000 in
theorem ggX3_targetOf_X3_isUsed : GoodIn wsX3_targetOf wsX3_isUsed := goodIn_r _ [6, 7, 8, 9, 10, 11] (by decide +kernel) (by decide +kernel)
set_option maxRecDepth 20000 in
theorem gX3_targetOf_X3_isUsed : GoodIn wsX3_targetOf (wsV RX3 25 RX3 yX3_isUsed wsX3_isUsed) := goodIn_app (goodIn_of _ (by decide +kernel)) ggX3_targetOf_X3_isUsed
set_option maxRecDepth 20000 in
theorem ggX3_countOpen_X3_stateOf : GoodIn wsX3_countOpen wsX3_stateOf := goodIn_r _ [6, 7, 8, 9, 10, 11, 5, 12, 1, 13, 14, 15, 16] (by decide +kernel) (by decide +kernel)
set_option maxRecDepth 20000 in
theorem gX3_countOpen_X3_stateOf : GoodIn wsX3_countOpen (wsV RX3 29 RX3 yX3_stateOf wsX3_stateOf) := goodIn_app (goodIn_of _ (by decide +kernel)) ggX3_countOpen_X3_stateOf
set_option maxRecDepth 20000 in
theorem ggX3_join_X3_openNew : GoodIn wsX3_join wsX3_openNew := goodIn_r _ [7, 8, 9, 28, 29, 30, 31] (by decide +kernel) (by decide +kernel)
set_option maxRecDepth 20000 in
theorem gX3_join_X3_openNew : GoodIn wsX3_join (wsV RX3 33 RX3 yX3_openNew wsX3_openNew) := goodIn_app (goodIn_of _ (by decide +kernel)) ggX3_join_X3_openNew
set_option maxRecDepth 20000 in
theorem ggX3_join_X3_unite : GoodIn wsX3_join wsX3_unite := goodIn_r _ [13, 8, 1, 14, 15, 16, 17, 18, 19, 20, 21, 22, 23, 24, 25, 26, 6, 27, 2, 9, 28, 29, 30, 31] (by decide +kernel) (by decide +kernel)
set_option maxRecDepth 20000 in
theorem gX3_join_X3_unite : GoodIn wsX3_join (wsV RX3 37 RX3 yX3_unite wsX3_unite) := goodIn_app (goodIn_of _ (by decide +kernel)) ggX3_join_X3_unite
set_option maxRecDepth 20000 in
theorem ggX3_unite_X4_has : GoodIn wsX3_unite wsX4_has := goodIn_r _ [9, 10, 11, 8, 12] (by decide +kernel) (by decide +kernel)
set_option maxRecDepth 20000 in
theorem gX3_unite_X4_has_n40 : GoodIn wsX3_unite (wsX4_has) := ggX3_unite_X4_has
set_option maxRecDepth 20000 in
theorem ggX3_unite_X3_merge : GoodIn wsX3_unite wsX3_merge := goodIn_r _ [17, 2, 18, 19, 20, 21, 22, 23] (by decide +kernel) (by decide +kernel)
set_option maxRecDepth 20000 in
theorem gX3_unite_X3_merge : GoodIn wsX3_unite (wsV RX3 50 RX3 yX3_merge wsX3_merge) := goodIn_app (goodIn_of _ (by decide +kernel)) ggX3_unite_X3_merge
set_option maxRecDepth 20000 in
theorem ggX4_init_X1_init : GoodIn wsX4_init wsX1_init := goodIn_r _ [19, 20, 2, 3, 21, 22, 23, 24, 25, 43, 44, 45, 46] (by decide +kernel) (by decide +kernel)
set_option maxRecDepth 20000 in
theorem gX4_init_X1_init_n9 : GoodIn wsX4_init (wsX1_init) := ggX4_init_X1_init
set_option maxRecDepth 20000 in
theorem ggX4_init_X2_init : GoodIn wsX4_init wsX2_init := goodIn_r _ [27, 28, 2, 3, 21, 29, 30, 31, 32, 33, 34, 52, 53, 54, 55, 56, 57] (by decide +kernel) (by decide +kernel)
set_option maxRecDepth 20000 in
theorem gX4_init_X2_init_n18 : GoodIn wsX4_init (wsX2_init) := ggX4_init_X2_init
set_option maxRecDepth 20000 in
theorem ggX4_init_X3_init : GoodIn wsX4_init wsX3_init := goodIn_r _ [37, 38, 2, 3, 21, 39, 40, 41, 42, 58, 59, 60, 61] (by decide +kernel) (by decide +kernel)
set_option maxRecDepth 20000 in
theorem gX4_init_X3_init : GoodIn wsX4_init (wsX3_init) := ggX4_init_X3_init
set_option maxRecDepth 20000 in
theorem ggX4_need_X4_checkNode : GoodIn wsX4_need wsX4_checkNode := goodIn_ca (goodIn_r _ [7, 8, 9] (by decide +kernel) (by decide +kernel)) (goodIn_sub (fun _ h => List.mem_cons_of_mem _ (List.mem_append_right _ h)) (by decide +kernel))
set_option maxRecDepth 20000 in
theorem gX4_need_X4_checkNode : GoodIn wsX4_need (va_wsS RX4 37 yX4_checkNode wsX4_checkNode) := goodIn_app (goodIn_of _ (by decide +kernel)) ggX4_need_X4_checkNode
set_option maxRecDepth 20000 in
theorem ggX4_need_X1_below : GoodIn wsX4_need wsX1_below := goodIn_r _ [14, 15, 44, 45, 46, 47] (by decide +kernel) (by decide +kernel)
set_option maxRecDepth 20000 in
theorem gX4_need_X1_below : GoodIn wsX4_need (wsV RX4 41 RX1 yX1_below wsX1_below) := goodIn_app (goodIn_of _ (by decide +kernel)) ggX4_need_X1_below
set_option maxRecDepth 20000 in
theorem ggX4_need_X4_has : GoodIn wsX4_need wsX4_has := goodIn_r _ [18, 19, 20, 6, 21] (by decide +kernel) (by decide +kernel)
set_option maxRecDepth 20000 in
theorem gX4_need_X4_has : GoodIn wsX4_need (va_wsS RX4 45 yX4_has wsX4_has) := goodIn_app (goodIn_of _ (by decide +kernel)) ggX4_need_X4_has
set_option maxRecDepth 20000 in
theorem ggX4_need_X1_link : GoodIn wsX4_need wsX1_link := goodIn_r _ [25, 26, 27, 17, 6, 18, 19, 20, 21, 28, 29, 30, 13, 31, 15, 32, 33, 34, 35, 36, 37, 38, 44, 45, 46, 47] (by decide +kernel) (by decide +kernel)
set_option maxRecDepth 20000 in
theorem gX4_need_X1_link : GoodIn wsX4_need (wsV RX4 56 RX1 yX1_link wsX1_link) := goodIn_app (goodIn_of _ (by decide +kernel)) ggX4_need_X1_link
set_option maxRecDepth 20000 in
theorem ggX4_release_X4_checkNode : GoodIn wsX4_release wsX4_checkNode := goodIn_ca (goodIn_r _ [5, 6, 7] (by decide +kernel) (by decide +kernel)) (goodIn_sub (fun _ h => List.mem_cons_of_mem _ (List.mem_append_right _ h)) (by decide +kernel))
set_option maxRecDepth 20000 in
theorem gX4_release_X4_checkNode : GoodIn wsX4_release (va_wsS RX4 37 yX4_checkNode wsX4_checkNode) := goodIn_app (goodIn_of _ (by decide +kernel)) ggX4_release_X4_checkNode
set_option maxRecDepth 20000 in
theorem ggX4_release_X1_unlink : GoodIn wsX4_release wsX1_unlink := goodIn_r _ [12, 13, 14, 15, 4, 16, 17, 18, 19, 20, 21, 22, 11, 23, 24, 25, 26, 27, 28, 29, 30, 31, 37, 38, 39, 40] (by decide +kernel) (by decide +kernel)
set_option maxRecDepth 20000 in
theorem gX4_release_X1_unlink : GoodIn wsX4_release (wsV RX4 59 RX1 yX1_unlink wsX1_unlink) := goodIn_app (goodIn_of _ (by decide +kernel)) ggX4_release_X1_unlink
set_option maxRecDepth 20000 in
theorem ggX4_needs_X4_checkNode : GoodIn wsX4_needs wsX4_checkNode := goodIn_ca (goodIn_r _ [5, 6, 7] (by decide +kernel) (by decide +kernel)) (goodIn_sub (fun _ h => List.mem_cons_of_mem _ (List.mem_append_right _ h)) (by decide +kernel))
set_option maxRecDepth 20000 in
theorem gX4_needs_X4_checkNode : GoodIn wsX4_needs (va_wsS RX4 37 yX4_checkNode wsX4_checkNode) := goodIn_app (goodIn_of _ (by decide +kernel)) ggX4_needs_X4_checkNode
set_option maxRecDepth 20000 in
theorem ggX4_needs_X1_needed : GoodIn wsX4_needs wsX1_needed := goodIn_r _ [12, 13, 25, 26, 27, 28] (by decide +kernel) (by decide +kernel)
set_option maxRecDepth 20000 in
theorem gX4_needs_X1_needed : GoodIn wsX4_needs (wsV RX4 62 RX1 yX1_needed wsX1_needed) := goodIn_app (goodIn_of _ (by decide +kernel)) ggX4_needs_X1_needed
set_option maxRecDepth 20000 in
theorem ggX4_needs_X4_has : GoodIn wsX4_needs wsX4_has := goodIn_r _ [16, 17, 18, 4, 19] (by decide +kernel) (by decide +kernel)
set_option maxRecDepth 20000 in
theorem gX4_needs_X4_has : GoodIn wsX4_needs (va_wsS RX4 45 yX4_has wsX4_has) := goodIn_app (goodIn_of _ (by decide +kernel)) ggX4_needs_X4_has
set_option maxRecDepth 20000 in
theorem ggX4_dependsOn_X4_checkNode : GoodIn wsX4_dependsOn wsX4_checkNode := goodIn_ca (goodIn_r _ [5, 6, 7] (by decide +kernel) (by decide +kernel)) (goodIn_sub (fun _ h => List.mem_cons_of_mem _ (List.mem_append_right _ h)) (by decide +kernel))
set_option maxRecDepth 20000 in
theorem gX4_dependsOn_X4_checkNode : GoodIn wsX4_dependsOn (va_wsS RX4 37 yX4_checkNode wsX4_checkNode) := goodIn_app (goodIn_of _ (by decide +kernel)) ggX4_dependsOn_X4_checkNode
set_option maxRecDepth 20000 in
theorem ggX4_dependsOn_X1_below : GoodIn wsX4_dependsOn wsX1_below := goodIn_r _ [12, 13, 25, 26, 27, 28] (by decide +kernel) (by decide +kernel)
set_option maxRecDepth 20000 in
theorem gX4_dependsOn_X1_below : GoodIn wsX4_dependsOn (wsV RX4 41 RX1 yX1_below wsX1_below) := goodIn_app (goodIn_of _ (by decide +kernel)) ggX4_dependsOn_X1_below
set_option maxRecDepth 20000 in
theorem ggX4_dependsOn_X4_has : GoodIn wsX4_dependsOn wsX4_has := goodIn_r _ [16, 17, 18, 4, 19] (by decide +kernel) (by decide +kernel)
set_option maxRecDepth 20000 in
theorem gX4_dependsOn_X4_has : GoodIn wsX4_dependsOn (va_wsS RX4 45 yX4_has wsX4_has) := goodIn_app (goodIn_of _ (by decide +kernel)) ggX4_dependsOn_X4_has
set_option maxRecDepth 20000 in
theorem ggX4_height_X4_checkNode : GoodIn wsX4_height wsX4_checkNode := goodIn_ca (goodIn_r _ [5, 6, 7] (by decide +kernel) (by decide +kernel)) (goodIn_sub (fun _ h => List.mem_cons_of_mem _ (List.mem_append_right _ h)) (by decide +kernel))
set_option maxRecDepth 20000 in
theorem gX4_height_X4_checkNode : GoodIn wsX4_height (va_wsS RX4 37 yX4_checkNode wsX4_checkNode) := goodIn_app (goodIn_of _ (by decide +kernel)) ggX4_height_X4_checkNode
set_option maxRecDepth 20000 in
theorem ggX4_height_X1_longestWayDown : GoodIn wsX4_height wsX1_longestWayDown := goodIn_r _ [12, 13, 14, 4, 15, 16, 17, 11, 18, 19, 20, 21, 27, 28, 29, 30] (by decide +kernel) (by decide +kernel)
set_option maxRecDepth 20000 in
theorem gX4_height_X1_longestWayDown : GoodIn wsX4_height (wsV RX4 65 RX1 yX1_longestWayDown wsX1_longestWayDown) := goodIn_app (goodIn_of _ (by decide +kernel)) ggX4_height_X1_longestWayDown
set_option maxRecDepth 20000 in
theorem ggX4_tick_X4_checkTicks : GoodIn wsX4_tick wsX4_checkTicks := goodIn_ca (goodIn_r _ [5, 6, 7] (by decide +kernel) (by decide +kernel)) (goodIn_sub (fun _ h => List.mem_cons_of_mem _ (List.mem_append_right _ h)) (by decide +kernel))
set_option maxRecDepth 20000 in
theorem gX4_tick_X4_checkTicks : GoodIn wsX4_tick (va_wsS RX4 68 yX4_checkTicks wsX4_checkTicks) := goodIn_app (goodIn_of _ (by decide +kernel)) ggX4_tick_X4_checkTicks
set_option maxRecDepth 20000 in
theorem ggX4_raise_X4_checkNode : GoodIn wsX4_raise wsX4_checkNode := goodIn_ca (goodIn_r _ [9, 10, 11] (by decide +kernel) (by decide +kernel)) (goodIn_sub (fun _ h => List.mem_cons_of_mem _ (List.mem_append_left _ (List.mem_append_right _ h))) (by decide +kernel))
set_option maxRecDepth 20000 in
theorem gX4_raise_X4_checkNode : GoodIn wsX4_raise (va_wsS RX4 37 yX4_checkNode wsX4_checkNode) := goodIn_app (goodIn_of _ (by decide +kernel)) ggX4_raise_X4_checkNode
set_option maxRecDepth 20000 in
theorem ggX4_raise_X4_has : GoodIn wsX4_raise wsX4_has := goodIn_r _ [14, 15, 16, 8, 17] (by decide +kernel) (by decide +kernel)
set_option maxRecDepth 20000 in
theorem gX4_raise_X4_has : GoodIn wsX4_raise (va_wsS RX4 45 yX4_has wsX4_has) := goodIn_app (goodIn_of _ (by decide +kernel)) ggX4_raise_X4_has
set_option maxRecDepth 20000 in
theorem ggX4_raise_X4_checkChange : GoodIn wsX4_raise wsX4_checkChange := goodIn_ca (goodIn_r _ [21, 22, 23, 2, 24, 25, 26, 27, 28, 29, 79, 80, 81, 82, 83, 84, 85, 86, 87, 88, 89] (by decide +kernel) (by decide +kernel)) (goodIn_sub (fun _ h => List.mem_cons_of_mem _ (List.mem_append_right _ h)) (by decide +kernel))
set_option maxRecDepth 20000 in
theorem gX4_raise_X4_checkChange : GoodIn wsX4_raise (wsV RX4 72 RX4 yX4_checkChange wsX4_checkChange) := goodIn_app (goodIn_of _ (by decide +kernel)) ggX4_raise_X4_checkChange
set_option maxRecDepth 20000 in
theorem ggX4_raise_X2_addRaise : GoodIn wsX4_raise wsX2_addRaise := goodIn_r _ [33, 34, 35, 36, 37, 27, 38, 39, 29, 40, 41, 42, 84, 85, 86, 87, 88, 89] (by decide +kernel) (by decide +kernel)
set_option maxRecDepth 20000 in
theorem gX4_raise_X2_addRaise : GoodIn wsX4_raise (wsV RX4 76 RX2 yX2_addRaise wsX2_addRaise) := goodIn_app (goodIn_of _ (by decide +kernel)) ggX4_raise_X2_addRaise
set_option maxRecDepth 20000 in
theorem ggX4_raise_X1_below : GoodIn wsX4_raise wsX1_below := goodIn_r _ [47, 48, 90, 91, 92, 93] (by decide +kernel) (by decide +kernel)
set_option maxRecDepth 20000 in
theorem gX4_raise_X1_below : GoodIn wsX4_raise (wsV RX4 41 RX1 yX1_below wsX1_below) := goodIn_app (goodIn_of _ (by decide +kernel)) ggX4_raise_X1_below
set_option maxRecDepth 20000 in
theorem ggX4_raise_X1_above : GoodIn wsX4_raise wsX1_above := goodIn_r _ [52, 53, 90, 91, 92, 93] (by decide +kernel) (by decide +kernel)
set_option maxRecDepth 20000 in
theorem gX4_raise_X1_above : GoodIn wsX4_raise (wsV RX4 79 RX1 yX1_above wsX1_above) := goodIn_app (goodIn_of _ (by decide +kernel)) ggX4_raise_X1_above
set_option maxRecDepth 20000 in
theorem ggX4_raise_X4_only : GoodIn wsX4_raise wsX4_only := goodIn_r _ [17] (by decide +kernel) (by decide +kernel)
end
section
set_option maxRecDepth 20000 in
theorem gX4_raise_X4_only : GoodIn wsX4_raise (va_wsS RX4 82 yX4_only wsX4_only) := goodIn_app (goodIn_of _ (by decide +kernel)) ggX4_raise_X4_only
set_option maxRecDepth 20000 in
theorem ggX4_raise_X3_join : GoodIn wsX4_raise wsX3_join := goodIn_r _ [58, 59, 60, 61, 62, 63, 57, 64, 65, 66, 67, 68, 69, 70, 71, 72, 73, 74, 13, 8, 14, 15, 16, 17, 75, 76, 77, 78, 94, 95, 96, 97] (by decide +kernel) (by decide +kernel)
set_option maxRecDepth 20000 in
theorem gX4_raise_X3_join : GoodIn wsX4_raise (wsV RX4 85 RX3 yX3_join wsX3_join) := goodIn_app (goodIn_of _ (by decide +kernel)) ggX4_raise_X3_join
set_option maxRecDepth 20000 in
theorem ggX4_clear_X4_checkNode : GoodIn wsX4_clear wsX4_checkNode := goodIn_ca (goodIn_r _ [8, 9, 10] (by decide +kernel) (by decide +kernel)) (goodIn_sub (fun _ h => List.mem_cons_of_mem _ (List.mem_append_left _ (List.mem_append_right _ h))) (by decide +kernel))
set_option maxRecDepth 20000 in
theorem gX4_clear_X4_checkNode : GoodIn wsX4_clear (va_wsS RX4 37 yX4_checkNode wsX4_checkNode) := goodIn_app (goodIn_of _ (by decide +kernel)) ggX4_clear_X4_checkNode
set_option maxRecDepth 20000 in
theorem ggX4_clear_X4_has : GoodIn wsX4_clear wsX4_has := goodIn_r _ [13, 14, 15, 7, 16] (by decide +kernel) (by decide +kernel)
set_option maxRecDepth 20000 in
theorem gX4_clear_X4_has : GoodIn wsX4_clear (va_wsS RX4 45 yX4_has wsX4_has) := goodIn_app (goodIn_of _ (by decide +kernel)) ggX4_clear_X4_has
set_option maxRecDepth 20000 in
theorem ggX4_clear_X4_checkChange : GoodIn wsX4_clear wsX4_checkChange := goodIn_ca (goodIn_r _ [20, 21, 22, 2, 23, 24, 25, 26, 27, 28, 49, 50, 51, 52, 53, 54, 55, 56, 57, 58, 59] (by decide +kernel) (by decide +kernel)) (goodIn_sub (fun _ h => List.mem_cons_of_mem _ (List.mem_append_right _ h)) (by decide +kernel))
set_option maxRecDepth 20000 in
theorem gX4_clear_X4_checkChange : GoodIn wsX4_clear (wsV RX4 72 RX4 yX4_checkChange wsX4_checkChange) := goodIn_app (goodIn_of _ (by decide +kernel)) ggX4_clear_X4_checkChange
set_option maxRecDepth 20000 in
theorem ggX4_clear_X2_addClear : GoodIn wsX4_clear wsX2_addClear := goodIn_r _ [32, 33, 34, 35, 36, 26, 37, 38, 28, 39, 40, 41, 54, 55, 56, 57, 58, 59] (by decide +kernel) (by decide +kernel)
set_option maxRecDepth 20000 in
theorem gX4_clear_X2_addClear : GoodIn wsX4_clear (wsV RX4 89 RX2 yX2_addClear wsX2_addClear) := goodIn_app (goodIn_of _ (by decide +kernel)) ggX4_clear_X2_addClear
set_option maxRecDepth 20000 in
theorem ggX4_clear_X4_only : GoodIn wsX4_clear wsX4_only := goodIn_r _ [16] (by decide +kernel) (by decide +kernel)
set_option maxRecDepth 20000 in
theorem gX4_clear_X4_only : GoodIn wsX4_clear (va_wsS RX4 82 yX4_only wsX4_only) := goodIn_app (goodIn_of _ (by decide +kernel)) ggX4_clear_X4_only
set_option maxRecDepth 20000 in
theorem ggX4_clear_X3_leave : GoodIn wsX4_clear wsX3_leave := goodIn_r _ [46, 47, 48, 60, 61, 62, 63] (by decide +kernel) (by decide +kernel)
set_option maxRecDepth 20000 in
theorem gX4_clear_X3_leave : GoodIn wsX4_clear (wsV RX4 92 RX3 yX3_leave wsX3_leave) := goodIn_app (goodIn_of _ (by decide +kernel)) ggX4_clear_X3_leave
set_option maxRecDepth 20000 in
theorem ggX4_state_X4_checkNode : GoodIn wsX4_state wsX4_checkNode := goodIn_ca (goodIn_r _ [4, 5, 6] (by decide +kernel) (by decide +kernel)) (goodIn_sub (fun _ h => List.mem_cons_of_mem _ (List.mem_append_right _ h)) (by decide +kernel))
set_option maxRecDepth 20000 in
theorem gX4_state_X4_checkNode : GoodIn wsX4_state (va_wsS RX4 37 yX4_checkNode wsX4_checkNode) := goodIn_app (goodIn_of _ (by decide +kernel)) ggX4_state_X4_checkNode
set_option maxRecDepth 20000 in
theorem ggX4_state_X4_stateNow : GoodIn wsX4_state wsX4_stateNow := goodIn_r _ [10, 11, 12, 13, 14, 15, 16, 3, 17, 18, 19, 20, 21, 22, 23, 24, 25, 26, 27, 28, 29, 30, 31, 32, 33, 34, 35, 36, 37, 38, 39, 40, 41, 42, 43, 44, 45, 46, 47, 48, 49, 50] (by decide +kernel) (by decide +kernel)
set_option maxRecDepth 20000 in
theorem gX4_state_X4_stateNow : GoodIn wsX4_state (wsV RX4 95 RX4 yX4_stateNow wsX4_stateNow) := goodIn_app (goodIn_of _ (by decide +kernel)) ggX4_state_X4_stateNow
set_option maxRecDepth 20000 in
theorem ggX4_nodesThatAre_X4_stateNow : GoodIn wsX4_nodesThatAre wsX4_stateNow := goodIn_r _ [7, 8, 9, 10, 11, 12, 13, 6, 14, 15, 16, 17, 18, 19, 20, 21, 22, 23, 24, 25, 26, 27, 28, 29, 30, 31, 32, 33, 34, 35, 36, 37, 38, 39, 40, 41, 42, 43, 44, 45, 46, 47] (by decide +kernel) (by decide +kernel)
set_option maxRecDepth 20000 in
theorem gX4_nodesThatAre_X4_stateNow : GoodIn wsX4_nodesThatAre (wsV RX4 95 RX4 yX4_stateNow wsX4_stateNow) := goodIn_app (goodIn_of _ (by decide +kernel)) ggX4_nodesThatAre_X4_stateNow
set_option maxRecDepth 20000 in
theorem ggX4_raises_X4_checkNode : GoodIn wsX4_raises wsX4_checkNode := goodIn_ca (goodIn_r _ [6, 7, 8] (by decide +kernel) (by decide +kernel)) (goodIn_sub (fun _ h => List.mem_cons_of_mem _ (List.mem_append_left _ (List.mem_append_right _ h))) (by decide +kernel))
set_option maxRecDepth 20000 in
theorem gX4_raises_X4_checkNode : GoodIn wsX4_raises (va_wsS RX4 37 yX4_checkNode wsX4_checkNode) := goodIn_app (goodIn_of _ (by decide +kernel)) ggX4_raises_X4_checkNode
set_option maxRecDepth 20000 in
theorem ggX4_raises_X4_checkTicks : GoodIn wsX4_raises wsX4_checkTicks := goodIn_ca (goodIn_r _ [11, 12, 13] (by decide +kernel) (by decide +kernel)) (goodIn_sub (fun _ h => List.mem_cons_of_mem _ (List.mem_append_right _ h)) (by decide +kernel))
set_option maxRecDepth 20000 in
theorem gX4_raises_X4_checkTicks : GoodIn wsX4_raises (va_wsS RX4 68 yX4_checkTicks wsX4_checkTicks) := goodIn_app (goodIn_of _ (by decide +kernel)) ggX4_raises_X4_checkTicks
set_option maxRecDepth 20000 in
theorem ggX4_raises_X2_raisesAfter : GoodIn wsX4_raises wsX2_raisesAfter := goodIn_r _ [18, 19, 20, 21, 22, 28, 29, 30, 31, 32, 33] (by decide +kernel) (by decide +kernel)
set_option maxRecDepth 20000 in
theorem gX4_raises_X2_raisesAfter : GoodIn wsX4_raises (wsV RX4 100 RX2 yX2_raisesAfter wsX2_raisesAfter) := goodIn_app (goodIn_of _ (by decide +kernel)) ggX4_raises_X2_raisesAfter
set_option maxRecDepth 20000 in
theorem ggX4_stateNow_X4_has : GoodIn wsX4_stateNow wsX4_has := goodIn_r _ [8, 9, 10, 7, 11] (by decide +kernel) (by decide +kernel)
set_option maxRecDepth 20000 in
theorem gX4_stateNow_X4_has : GoodIn wsX4_stateNow (va_wsS RX4 45 yX4_has wsX4_has) := goodIn_app (goodIn_of _ (by decide +kernel)) ggX4_stateNow_X4_has
set_option maxRecDepth 20000 in
theorem ggX4_stateNow_X2_raisesAfter : GoodIn wsX4_stateNow wsX2_raisesAfter := goodIn_r _ [16, 17, 18, 19, 20, 32, 33, 34, 35, 36, 37] (by decide +kernel) (by decide +kernel)
set_option maxRecDepth 20000 in
theorem gX4_stateNow_X2_raisesAfter : GoodIn wsX4_stateNow (wsV RX4 100 RX2 yX2_raisesAfter wsX2_raisesAfter) := goodIn_app (goodIn_of _ (by decide +kernel)) ggX4_stateNow_X2_raisesAfter
set_option maxRecDepth 20000 in
theorem ggX4_stateNow_X1_below : GoodIn wsX4_stateNow wsX1_below := goodIn_r _ [25, 26, 38, 39, 40, 41] (by decide +kernel) (by decide +kernel)
set_option maxRecDepth 20000 in
theorem gX4_stateNow_X1_below : GoodIn wsX4_stateNow (wsV RX4 41 RX1 yX1_below wsX1_below) := goodIn_app (goodIn_of _ (by decide +kernel)) ggX4_stateNow_X1_below
set_option maxRecDepth 20000 in
theorem ggX4_events_X2_count : GoodIn wsX4_events wsX2_count := goodIn_r _ [6, 7, 13, 14, 15, 16, 17, 18] (by decide +kernel) (by decide +kernel)
set_option maxRecDepth 20000 in
theorem gX4_events_X2_count : GoodIn wsX4_events (wsV RX4 103 RX2 yX2_count wsX2_count) := goodIn_app (goodIn_of _ (by decide +kernel)) ggX4_events_X2_count
set_option maxRecDepth 20000 in
theorem ggX4_eventKind_X4_checkEvent : GoodIn wsX4_eventKind wsX4_checkEvent := goodIn_ca (goodIn_r _ [6, 7, 8, 1, 9, 10, 11, 12, 13, 14, 20, 21, 22, 23, 24, 25, 26, 27, 28, 29, 30] (by decide +kernel) (by decide +kernel)) (goodIn_sub (fun _ h => List.mem_cons_of_mem _ (List.mem_append_right _ h)) (by decide +kernel))
set_option maxRecDepth 20000 in
theorem gX4_eventKind_X4_checkEvent : GoodIn wsX4_eventKind (wsV RX4 107 RX4 yX4_checkEvent wsX4_checkEvent) := goodIn_app (goodIn_of _ (by decide +kernel)) ggX4_eventKind_X4_checkEvent
set_option maxRecDepth 20000 in
theorem ggX4_eventKind_X2_kindAt : GoodIn wsX4_eventKind wsX2_kindAt := goodIn_r _ [18, 19, 25, 26, 27, 28, 29, 30] (by decide +kernel) (by decide +kernel)
set_option maxRecDepth 20000 in
theorem gX4_eventKind_X2_kindAt : GoodIn wsX4_eventKind (wsV RX4 110 RX2 yX2_kindAt wsX2_kindAt) := goodIn_app (goodIn_of _ (by decide +kernel)) ggX4_eventKind_X2_kindAt
set_option maxRecDepth 20000 in
theorem ggX4_eventNode_X4_checkEvent : GoodIn wsX4_eventNode wsX4_checkEvent := goodIn_ca (goodIn_r _ [6, 7, 8, 1, 9, 10, 11, 12, 13, 14, 20, 21, 22, 23, 24, 25, 26, 27, 28, 29, 30] (by decide +kernel) (by decide +kernel)) (goodIn_sub (fun _ h => List.mem_cons_of_mem _ (List.mem_append_right _ h)) (by decide +kernel))
set_option maxRecDepth 20000 in
theorem gX4_eventNode_X4_checkEvent : GoodIn wsX4_eventNode (wsV RX4 107 RX4 yX4_checkEvent wsX4_checkEvent) := goodIn_app (goodIn_of _ (by decide +kernel)) ggX4_eventNode_X4_checkEvent
set_option maxRecDepth 20000 in
theorem ggX4_eventNode_X2_nodeAt : GoodIn wsX4_eventNode wsX2_nodeAt := goodIn_r _ [18, 19, 25, 26, 27, 28, 29, 30] (by decide +kernel) (by decide +kernel)
set_option maxRecDepth 20000 in
theorem gX4_eventNode_X2_nodeAt : GoodIn wsX4_eventNode (wsV RX4 113 RX2 yX2_nodeAt wsX2_nodeAt) := goodIn_app (goodIn_of _ (by decide +kernel)) ggX4_eventNode_X2_nodeAt
set_option maxRecDepth 20000 in
theorem ggX4_eventTime_X4_checkEvent : GoodIn wsX4_eventTime wsX4_checkEvent := goodIn_ca (goodIn_r _ [6, 7, 8, 1, 9, 10, 11, 12, 13, 14, 20, 21, 22, 23, 24, 25, 26, 27, 28, 29, 30] (by decide +kernel) (by decide +kernel)) (goodIn_sub (fun _ h => List.mem_cons_of_mem _ (List.mem_append_right _ h)) (by decide +kernel))
set_option maxRecDepth 20000 in
theorem gX4_eventTime_X4_checkEvent : GoodIn wsX4_eventTime (wsV RX4 107 RX4 yX4_checkEvent wsX4_checkEvent) := goodIn_app (goodIn_of _ (by decide +kernel)) ggX4_eventTime_X4_checkEvent
set_option maxRecDepth 20000 in
theorem ggX4_eventTime_X2_timeAt : GoodIn wsX4_eventTime wsX2_timeAt := goodIn_r _ [18, 19, 25, 26, 27, 28, 29, 30] (by decide +kernel) (by decide +kernel)
set_option maxRecDepth 20000 in
theorem gX4_eventTime_X2_timeAt : GoodIn wsX4_eventTime (wsV RX4 116 RX2 yX2_timeAt wsX2_timeAt) := goodIn_app (goodIn_of _ (by decide +kernel)) ggX4_eventTime_X2_timeAt
set_option maxRecDepth 20000 in
theorem ggX4_eventLength_X4_checkEvent : GoodIn wsX4_eventLength wsX4_checkEvent := goodIn_ca (goodIn_r _ [6, 7, 8, 1, 9, 10, 11, 12, 13, 14, 20, 21, 22, 23, 24, 25, 26, 27, 28, 29, 30] (by decide +kernel) (by decide +kernel)) (goodIn_sub (fun _ h => List.mem_cons_of_mem _ (List.mem_append_right _ h)) (by decide +kernel))
set_option maxRecDepth 20000 in
theorem gX4_eventLength_X4_checkEvent : GoodIn wsX4_eventLength (wsV RX4 107 RX4 yX4_checkEvent wsX4_checkEvent) := goodIn_app (goodIn_of _ (by decide +kernel)) ggX4_eventLength_X4_checkEvent
set_option maxRecDepth 20000 in
theorem ggX4_eventLength_X2_lengthAt : GoodIn wsX4_eventLength wsX2_lengthAt := goodIn_r _ [18, 19, 25, 26, 27, 28, 29, 30] (by decide +kernel) (by decide +kernel)
set_option maxRecDepth 20000 in
theorem gX4_eventLength_X2_lengthAt : GoodIn wsX4_eventLength (wsV RX4 119 RX2 yX2_lengthAt wsX2_lengthAt) := goodIn_app (goodIn_of _ (by decide +kernel)) ggX4_eventLength_X2_lengthAt
set_option maxRecDepth 20000 in
theorem ggX4_openTickets_X3_countOpen : GoodIn wsX4_openTickets wsX3_countOpen := goodIn_r _ [6, 7, 8, 9, 10, 5, 11, 12, 13, 14, 15, 16, 17, 23, 24, 25, 26] (by decide +kernel) (by decide +kernel)
set_option maxRecDepth 20000 in
theorem gX4_openTickets_X3_countOpen : GoodIn wsX4_openTickets (wsV RX4 122 RX3 yX3_countOpen wsX3_countOpen) := goodIn_app (goodIn_of _ (by decide +kernel)) ggX4_openTickets_X3_countOpen
set_option maxRecDepth 20000 in
theorem ggX4_ticketOf_X4_checkNode : GoodIn wsX4_ticketOf wsX4_checkNode := goodIn_ca (goodIn_r _ [5, 6, 7] (by decide +kernel) (by decide +kernel)) (goodIn_sub (fun _ h => List.mem_cons_of_mem _ (List.mem_append_right _ h)) (by decide +kernel))
set_option maxRecDepth 20000 in
theorem gX4_ticketOf_X4_checkNode : GoodIn wsX4_ticketOf (va_wsS RX4 37 yX4_checkNode wsX4_checkNode) := goodIn_app (goodIn_of _ (by decide +kernel)) ggX4_ticketOf_X4_checkNode
set_option maxRecDepth 20000 in
theorem ggX4_ticketOf_X3_numberOf : GoodIn wsX4_ticketOf wsX3_numberOf := goodIn_r _ [12, 13, 19, 20, 21, 22] (by decide +kernel) (by decide +kernel)
set_option maxRecDepth 20000 in
theorem gX4_ticketOf_X3_numberOf : GoodIn wsX4_ticketOf (wsV RX4 125 RX3 yX3_numberOf wsX3_numberOf) := goodIn_app (goodIn_of _ (by decide +kernel)) ggX4_ticketOf_X3_numberOf
set_option maxRecDepth 20000 in
theorem ggX4_ticketState_X3_stateOf : GoodIn wsX4_ticketState wsX3_stateOf := goodIn_r _ [6, 7, 8, 9, 10, 11, 5, 12, 13, 19, 20, 21, 22] (by decide +kernel) (by decide +kernel)
set_option maxRecDepth 20000 in
theorem gX4_ticketState_X3_stateOf : GoodIn wsX4_ticketState (wsV RX4 128 RX3 yX3_stateOf wsX3_stateOf) := goodIn_app (goodIn_of _ (by decide +kernel)) ggX4_ticketState_X3_stateOf
set_option maxRecDepth 20000 in
theorem ggX4_ticketSize_X3_sizeOf : GoodIn wsX4_ticketSize wsX3_sizeOf := goodIn_r _ [6, 7, 8, 9, 10, 5, 11, 12, 18, 19, 20, 21] (by decide +kernel) (by decide +kernel)
set_option maxRecDepth 20000 in
theorem gX4_ticketSize_X3_sizeOf : GoodIn wsX4_ticketSize (wsV RX4 131 RX3 yX3_sizeOf wsX3_sizeOf) := goodIn_app (goodIn_of _ (by decide +kernel)) ggX4_ticketSize_X3_sizeOf
set_option maxRecDepth 20000 in
theorem ggX4_mergedInto_X3_targetOf : GoodIn wsX4_mergedInto wsX3_targetOf := goodIn_r _ [6, 7, 8, 9, 10, 5, 11, 12, 18, 19, 20, 21] (by decide +kernel) (by decide +kernel)
set_option maxRecDepth 20000 in
theorem gX4_mergedInto_X3_targetOf : GoodIn wsX4_mergedInto (wsV RX4 134 RX3 yX3_targetOf wsX3_targetOf) := goodIn_app (goodIn_of _ (by decide +kernel)) ggX4_mergedInto_X3_targetOf
set_option maxRecDepth 20000 in
theorem ggX4_isPlausible_X4_checkNode : GoodIn wsX4_isPlausible wsX4_checkNode := goodIn_ca (goodIn_r _ [4, 5, 6] (by decide +kernel) (by decide +kernel)) (goodIn_sub (fun _ h => List.mem_cons_of_mem _ (List.mem_append_right _ h)) (by decide +kernel))
set_option maxRecDepth 20000 in
theorem gX4_isPlausible_X4_checkNode : GoodIn wsX4_isPlausible (va_wsS RX4 37 yX4_checkNode wsX4_checkNode) := goodIn_app (goodIn_of _ (by decide +kernel)) ggX4_isPlausible_X4_checkNode
set_option maxRecDepth 20000 in
theorem ggX4_isPlausible_X4_diagnoser : GoodIn wsX4_isPlausible wsX4_diagnoser := goodIn_r _ [10, 11, 12, 13, 14, 15, 16, 17, 18, 19, 20, 21, 22, 23, 24, 25, 26, 27, 28, 29, 30, 31, 32, 33, 34, 3, 35, 44, 45, 46, 47, 48, 49, 50, 51, 52, 53, 54, 55] (by decide +kernel) (by decide +kernel)
set_option maxRecDepth 20000 in
theorem gX4_isPlausible_X4_diagnoser : GoodIn wsX4_isPlausible (wsV RX4 137 RX4 yX4_diagnoser wsX4_diagnoser) := goodIn_app (goodIn_of _ (by decide +kernel)) ggX4_isPlausible_X4_diagnoser
set_option maxRecDepth 20000 in
theorem ggX4_isPlausible_X0_plausibleNodes : GoodIn wsX4_isPlausible wsX0_plausibleNodes := goodIn_r _ [39, 24, 44, 45, 46] (by decide +kernel) (by decide +kernel)
set_option maxRecDepth 20000 in
theorem gX4_isPlausible_X0_plausibleNodes : GoodIn wsX4_isPlausible (wsV RX4 141 RX0 yX0_plausibleNodes wsX0_plausibleNodes) := goodIn_app (goodIn_of _ (by decide +kernel)) ggX4_isPlausible_X0_plausibleNodes
set_option maxRecDepth 20000 in
theorem ggX4_isPlausible_X4_has : GoodIn wsX4_isPlausible wsX4_has := goodIn_r _ [42, 43, 34, 3, 35] (by decide +kernel) (by decide +kernel)
set_option maxRecDepth 20000 in
theorem gX4_isPlausible_X4_has : GoodIn wsX4_isPlausible (va_wsS RX4 45 yX4_has wsX4_has) := goodIn_app (goodIn_of _ (by decide +kernel)) ggX4_isPlausible_X4_has
set_option maxRecDepth 20000 in
theorem ggX4_causes_X4_diagnoser : GoodIn wsX4_causes wsX4_diagnoser := goodIn_r _ [5, 6, 7, 8, 9, 10, 11, 12, 13, 14, 15, 16, 17, 18, 19, 20, 21, 22, 23, 24, 25, 26, 27, 28, 29, 4, 30, 66, 67, 68, 69, 70, 71, 72, 73, 74, 75, 76, 77] (by decide +kernel) (by decide +kernel)
set_option maxRecDepth 20000 in
theorem gX4_causes_X4_diagnoser : GoodIn wsX4_causes (wsV RX4 137 RX4 yX4_diagnoser wsX4_diagnoser) := goodIn_app (goodIn_of _ (by decide +kernel)) ggX4_causes_X4_diagnoser
set_option maxRecDepth 20000 in
theorem ggX4_causes_X0_bestBySearch : GoodIn wsX4_causes wsX0_bestBySearch := goodIn_r _ [34, 18, 19, 35, 36, 8, 37, 17, 38, 4, 39, 40, 41, 42, 43, 29, 30, 44, 45, 46, 47, 48, 49, 50, 51, 52, 53, 54, 55, 56, 57, 26, 58, 59, 60, 61, 62, 63, 64, 66, 67, 68, 74, 75, 76, 77] (by decide +kernel) (by decide +kernel)
set_option maxRecDepth 20000 in
theorem gX4_causes_X0_bestBySearch : GoodIn wsX4_causes (wsV RX4 146 RX0 yX0_bestBySearch wsX0_bestBySearch) := goodIn_app (goodIn_of _ (by decide +kernel)) ggX4_causes_X0_bestBySearch
set_option maxRecDepth 20000 in
theorem ggX4_causes_J6_bitCount_0f7a4 : GoodIn wsX4_causes wsJ6_bitCount_0f7a4 := goodIn_r _ [51, 52, 53, 54] (by decide +kernel) (by decide +kernel)
set_option maxRecDepth 20000 in
theorem gX4_causes_J6_bitCount_0f7a4 : GoodIn wsX4_causes (va_wsS RX4 149 yJ6_bitCount_0f7a4 wsJ6_bitCount_0f7a4) := goodIn_app (goodIn_of _ (by decide +kernel)) ggX4_causes_J6_bitCount_0f7a4
set_option maxRecDepth 20000 in
theorem ggX4_cause_X4_diagnoser : GoodIn wsX4_cause wsX4_diagnoser := goodIn_r _ [5, 6, 7, 8, 9, 10, 11, 12, 13, 14, 15, 16, 17, 18, 19, 20, 21, 22, 23, 24, 25, 26, 27, 28, 29, 4, 30, 71, 72, 73, 74, 75, 76, 77, 78, 79, 80, 81, 82] (by decide +kernel) (by decide +kernel)
set_option maxRecDepth 20000 in
theorem gX4_cause_X4_diagnoser : GoodIn wsX4_cause (wsV RX4 137 RX4 yX4_diagnoser wsX4_diagnoser) := goodIn_app (goodIn_of _ (by decide +kernel)) ggX4_cause_X4_diagnoser
set_option maxRecDepth 20000 in
theorem ggX4_cause_X0_bestBySearch : GoodIn wsX4_cause wsX0_bestBySearch := goodIn_r _ [34, 18, 19, 35, 36, 8, 37, 17, 38, 4, 39, 40, 41, 42, 43, 29, 30, 44, 45, 46, 47, 48, 49, 50, 51, 52, 53, 54, 55, 56, 57, 26, 58, 59, 60, 61, 62, 63, 64, 71, 72, 73, 79, 80, 81, 82] (by decide +kernel) (by decide +kernel)
set_option maxRecDepth 20000 in
theorem gX4_cause_X0_bestBySearch : GoodIn wsX4_cause (wsV RX4 146 RX0 yX0_bestBySearch wsX0_bestBySearch) := goodIn_app (goodIn_of _ (by decide +kernel)) ggX4_cause_X0_bestBySearch
set_option maxRecDepth 20000 in
theorem ggX4_cause_X4_nodeThere : GoodIn wsX4_cause wsX4_nodeThere := goodIn_ca (goodIn_r _ [67, 68, 69, 70, 38, 4, 39, 40, 41, 42, 43, 29, 30] (by decide +kernel) (by decide +kernel)) (goodIn_sub (fun _ h => List.mem_cons_of_mem _ (List.mem_append_right _ h)) (by decide +kernel))
set_option maxRecDepth 20000 in
theorem gX4_cause_X4_nodeThere : GoodIn wsX4_cause (va_wsS RX4 154 yX4_nodeThere wsX4_nodeThere) := goodIn_app (goodIn_of _ (by decide +kernel)) ggX4_cause_X4_nodeThere
set_option maxRecDepth 20000 in
theorem ggX4_causeByTrying_X4_diagnoser : GoodIn wsX4_causeByTrying wsX4_diagnoser := goodIn_r _ [5, 6, 7, 8, 9, 10, 11, 12, 13, 14, 15, 16, 17, 18, 19, 20, 21, 22, 23, 24, 25, 26, 27, 28, 29, 4, 30, 67, 68, 69, 70, 71, 72, 73, 74, 75, 76, 77, 78] (by decide +kernel) (by decide +kernel)
set_option maxRecDepth 20000 in
theorem gX4_causeByTrying_X4_diagnoser : GoodIn wsX4_causeByTrying (wsV RX4 137 RX4 yX4_diagnoser wsX4_diagnoser) := goodIn_app (goodIn_of _ (by decide +kernel)) ggX4_causeByTrying_X4_diagnoser
set_option maxRecDepth 20000 in
theorem ggX4_causeByTrying_X0_bestByTrying : GoodIn wsX4_causeByTrying wsX0_bestByTrying := goodIn_r _ [34, 18, 19, 35, 36, 37, 38, 39, 40, 41, 42, 43, 44, 8, 45, 46, 4, 47, 48, 49, 50, 51, 29, 30, 52, 53, 54, 55, 17, 56, 57, 58, 26, 59, 60, 67, 68, 69, 75, 76, 77, 78] (by decide +kernel) (by decide +kernel)
set_option maxRecDepth 20000 in
theorem gX4_causeByTrying_X0_bestByTrying : GoodIn wsX4_causeByTrying (wsV RX4 157 RX0 yX0_bestByTrying wsX0_bestByTrying) := goodIn_app (goodIn_of _ (by decide +kernel)) ggX4_causeByTrying_X0_bestByTrying
set_option maxRecDepth 20000 in
theorem ggX4_causeByTrying_X4_nodeThere : GoodIn wsX4_causeByTrying wsX4_nodeThere := goodIn_ca (goodIn_r _ [63, 64, 65, 66, 46, 4, 47, 48, 49, 50, 51, 29, 30] (by decide +kernel) (by decide +kernel)) (goodIn_sub (fun _ h => List.mem_cons_of_mem _ (List.mem_append_right _ h)) (by decide +kernel))
set_option maxRecDepth 20000 in
theorem gX4_causeByTrying_X4_nodeThere : GoodIn wsX4_causeByTrying (va_wsS RX4 154 yX4_nodeThere wsX4_nodeThere) := goodIn_app (goodIn_of _ (by decide +kernel)) ggX4_causeByTrying_X4_nodeThere
set_option maxRecDepth 20000 in
theorem ggX4_greedyCauses_X4_diagnoser : GoodIn wsX4_greedyCauses wsX4_diagnoser := goodIn_r _ [5, 6, 7, 8, 9, 10, 11, 12, 13, 14, 15, 16, 17, 18, 19, 20, 21, 22, 23, 24, 25, 26, 27, 28, 29, 4, 30, 54, 55, 56, 57, 58, 59, 60, 61, 62, 63, 64, 65] (by decide +kernel) (by decide +kernel)
set_option maxRecDepth 20000 in
theorem gX4_greedyCauses_X4_diagnoser : GoodIn wsX4_greedyCauses (wsV RX4 137 RX4 yX4_diagnoser wsX4_diagnoser) := goodIn_app (goodIn_of _ (by decide +kernel)) ggX4_greedyCauses_X4_diagnoser
set_option maxRecDepth 20000 in
theorem ggX4_greedyCauses_X0_greedyCount : GoodIn wsX4_greedyCauses wsX0_greedyCount := goodIn_r _ [34, 18, 17, 35, 36, 37, 8, 38, 19, 39, 4, 40, 41, 29, 30, 42, 43, 44, 26, 45, 46, 47, 48, 49, 50, 51, 52, 53, 54, 55, 56, 62, 63, 64, 65] (by decide +kernel) (by decide +kernel)
set_option maxRecDepth 20000 in
theorem gX4_greedyCauses_X0_greedyCount : GoodIn wsX4_greedyCauses (wsV RX4 160 RX0 yX0_greedyCount wsX0_greedyCount) := goodIn_app (goodIn_of _ (by decide +kernel)) ggX4_greedyCauses_X0_greedyCount
set_option maxRecDepth 20000 in
theorem ggX4_greedyCause_X4_diagnoser : GoodIn wsX4_greedyCause wsX4_diagnoser := goodIn_r _ [7, 8, 9, 10, 11, 12, 13, 14, 15, 16, 17, 18, 19, 20, 21, 22, 23, 24, 25, 26, 27, 28, 29, 30, 31, 6, 32, 56, 57, 58, 59, 60, 61, 62, 63, 64, 65, 66, 67] (by decide +kernel) (by decide +kernel)
set_option maxRecDepth 20000 in
theorem gX4_greedyCause_X4_diagnoser : GoodIn wsX4_greedyCause (wsV RX4 137 RX4 yX4_diagnoser wsX4_diagnoser) := goodIn_app (goodIn_of _ (by decide +kernel)) ggX4_greedyCause_X4_diagnoser
set_option maxRecDepth 20000 in
theorem ggX4_greedyCause_X0_greedyAt : GoodIn wsX4_greedyCause wsX0_greedyAt := goodIn_r _ [36, 20, 19, 37, 38, 39, 10, 40, 21, 41, 6, 42, 43, 31, 32, 44, 45, 46, 28, 47, 48, 49, 50, 51, 52, 53, 54, 55, 56, 57, 58, 64, 65, 66, 67] (by decide +kernel) (by decide +kernel)
set_option maxRecDepth 20000 in
theorem gX4_greedyCause_X0_greedyAt : GoodIn wsX4_greedyCause (wsV RX4 163 RX0 yX0_greedyAt wsX0_greedyAt) := goodIn_app (goodIn_of _ (by decide +kernel)) ggX4_greedyCause_X0_greedyAt
set_option maxRecDepth 20000 in
theorem ggX4_causeOf_X4_checkNode : GoodIn wsX4_causeOf wsX4_checkNode := goodIn_ca (goodIn_r _ [6, 7, 8] (by decide +kernel) (by decide +kernel)) (goodIn_sub (fun _ h => List.mem_cons_of_mem _ (List.mem_append_right _ h)) (by decide +kernel))
set_option maxRecDepth 20000 in
theorem gX4_causeOf_X4_checkNode : GoodIn wsX4_causeOf (va_wsS RX4 37 yX4_checkNode wsX4_checkNode) := goodIn_app (goodIn_of _ (by decide +kernel)) ggX4_causeOf_X4_checkNode
set_option maxRecDepth 20000 in
theorem ggX4_causeOf_X4_has : GoodIn wsX4_causeOf wsX4_has := goodIn_r _ [11, 12, 13, 5, 14] (by decide +kernel) (by decide +kernel)
set_option maxRecDepth 20000 in
theorem gX4_causeOf_X4_has : GoodIn wsX4_causeOf (va_wsS RX4 45 yX4_has wsX4_has) := goodIn_app (goodIn_of _ (by decide +kernel)) ggX4_causeOf_X4_has
set_option maxRecDepth 20000 in
theorem ggX4_causeOf_X4_diagnoser : GoodIn wsX4_causeOf wsX4_diagnoser := goodIn_r _ [18, 19, 20, 21, 2, 1, 22, 23, 24, 25, 26, 27, 28, 29, 30, 31, 32, 33, 34, 35, 36, 37, 38, 39, 13, 5, 14, 77, 78, 79, 72, 73, 74, 75, 76, 80, 81, 82, 83] (by decide +kernel) (by decide +kernel)
set_option maxRecDepth 20000 in
theorem gX4_causeOf_X4_diagnoser : GoodIn wsX4_causeOf (wsV RX4 137 RX4 yX4_diagnoser wsX4_diagnoser) := goodIn_app (goodIn_of _ (by decide +kernel)) ggX4_causeOf_X4_diagnoser
set_option maxRecDepth 20000 in
theorem ggX4_causeOf_X0_bestBySearch : GoodIn wsX4_causeOf wsX0_bestBySearch := goodIn_r _ [43, 29, 30, 44, 45, 21, 46, 28, 47, 5, 48, 9, 10, 11, 12, 13, 14, 49, 50, 51, 52, 53, 54, 55, 56, 57, 58, 59, 60, 61, 62, 37, 63, 64, 65, 66, 67, 68, 69, 77, 78, 79, 80, 81, 82, 83] (by decide +kernel) (by decide +kernel)
set_option maxRecDepth 20000 in
theorem gX4_causeOf_X0_bestBySearch : GoodIn wsX4_causeOf (wsV RX4 146 RX0 yX0_bestBySearch wsX0_bestBySearch) := goodIn_app (goodIn_of _ (by decide +kernel)) ggX4_causeOf_X0_bestBySearch
set_option maxRecDepth 20000 in
theorem ggX4_causeOf_X1_explainersOf : GoodIn wsX4_causeOf wsX1_explainersOf := goodIn_r _ [63, 64, 13, 5, 14, 80, 81, 82, 83] (by decide +kernel) (by decide +kernel)
set_option maxRecDepth 20000 in
theorem gX4_causeOf_X1_explainersOf : GoodIn wsX4_causeOf (wsV RX4 171 RX1 yX1_explainersOf wsX1_explainersOf) := goodIn_app (goodIn_of _ (by decide +kernel)) ggX4_causeOf_X1_explainersOf
set_option maxRecDepth 20000 in
theorem ggX4_causeOf_X4_nodeAtPlace : GoodIn wsX4_causeOf wsX4_nodeAtPlace := goodIn_r _ [48, 9, 10, 5, 11, 12, 13, 14] (by decide +kernel) (by decide +kernel)
set_option maxRecDepth 20000 in
theorem gX4_causeOf_X4_nodeAtPlace : GoodIn wsX4_causeOf (va_wsS RX4 174 yX4_nodeAtPlace wsX4_nodeAtPlace) := goodIn_app (goodIn_of _ (by decide +kernel)) ggX4_causeOf_X4_nodeAtPlace
set_option maxRecDepth 20000 in
theorem ggX4_diagnoser_X0_init : GoodIn wsX4_diagnoser wsX0_init := goodIn_r _ [8, 9, 10, 11, 12, 13, 14, 15, 16, 3, 17, 18, 19, 20, 21, 22, 23, 24, 25, 26, 27, 28, 29, 35, 36, 37, 38] (by decide +kernel) (by decide +kernel)
set_option maxRecDepth 20000 in
theorem gX4_diagnoser_X0_init : GoodIn wsX4_diagnoser (wsX0_init) := ggX4_diagnoser_X0_init
set_option maxRecDepth 20000 in
theorem ggX4_checkChange_X2_isFull : GoodIn wsX4_checkChange wsX2_isFull := goodIn_r _ [8, 9, 15, 16, 17, 18, 19, 20] (by decide +kernel) (by decide +kernel)
set_option maxRecDepth 20000 in
theorem gX4_checkChange_X2_isFull : GoodIn wsX4_checkChange (wsV RX4 184 RX2 yX2_isFull wsX2_isFull) := goodIn_app (goodIn_of _ (by decide +kernel)) ggX4_checkChange_X2_isFull
set_option maxRecDepth 20000 in
theorem ggX4_checkEvent_X2_count : GoodIn wsX4_checkEvent wsX2_count := goodIn_r _ [8, 9, 15, 16, 17, 18, 19, 20] (by decide +kernel) (by decide +kernel)
set_option maxRecDepth 20000 in
theorem gX4_checkEvent_X2_count : GoodIn wsX4_checkEvent (wsV RX4 103 RX2 yX2_count wsX2_count) := goodIn_app (goodIn_of _ (by decide +kernel)) ggX4_checkEvent_X2_count
set_option maxRecDepth 20000 in
theorem ggX4_nodeThere_X4_nodeAtPlace : GoodIn wsX4_nodeThere wsX4_nodeAtPlace := goodIn_r _ [6, 7, 8, 5, 9, 10, 11, 12] (by decide +kernel) (by decide +kernel)
set_option maxRecDepth 20000 in
theorem gX4_nodeThere_X4_nodeAtPlace : GoodIn wsX4_nodeThere (va_wsS RX4 174 yX4_nodeAtPlace wsX4_nodeAtPlace) := goodIn_app (goodIn_of _ (by decide +kernel)) ggX4_nodeThere_X4_nodeAtPlace
set_option maxRecDepth 20000 in
theorem ggX4_has_X4_only : GoodIn wsX4_has wsX4_only := goodIn_r _ [4] (by decide +kernel) (by decide +kernel)
set_option maxRecDepth 20000 in
theorem gX4_has_X4_only : GoodIn wsX4_has (va_wsS RX4 82 yX4_only wsX4_only) := goodIn_app (goodIn_of _ (by decide +kernel)) ggX4_has_X4_only
set_option maxRecDepth 20000 in
theorem ggX4_nodeAtPlace_X4_has : GoodIn wsX4_nodeAtPlace wsX4_has := goodIn_r _ [4, 5, 6, 3, 7] (by decide +kernel) (by decide +kernel)
set_option maxRecDepth 20000 in
theorem gX4_nodeAtPlace_X4_has : GoodIn wsX4_nodeAtPlace (va_wsS RX4 45 yX4_has wsX4_has) := goodIn_app (goodIn_of _ (by decide +kernel)) ggX4_nodeAtPlace_X4_has
set_option maxRecDepth 20000 in
theorem ggX5_at_X5_has : GoodIn wsX5_at wsX5_has := goodIn_r _ [4] (by decide +kernel) (by decide +kernel)
set_option maxRecDepth 20000 in
theorem gX5_at_X5_has : GoodIn wsX5_at (va_wsS RX5 47 yX5_has wsX5_has) := goodIn_app (goodIn_of _ (by decide +kernel)) ggX5_at_X5_has
set_option maxRecDepth 20000 in
theorem ggX5_closes_X5_has : GoodIn wsX5_closes wsX5_has := goodIn_r _ [6] (by decide +kernel) (by decide +kernel)
set_option maxRecDepth 20000 in
theorem gX5_closes_X5_has : GoodIn wsX5_closes (va_wsS RX5 47 yX5_has wsX5_has) := goodIn_app (goodIn_of _ (by decide +kernel)) ggX5_closes_X5_has
set_option maxRecDepth 20000 in
theorem ggX5_need_X5_isNode : GoodIn wsX5_need wsX5_isNode := goodIn_r _ [6] (by decide +kernel) (by decide +kernel)
set_option maxRecDepth 20000 in
theorem gX5_need_X5_isNode : GoodIn wsX5_need (va_wsS RX5 51 yX5_isNode wsX5_isNode) := goodIn_app (goodIn_of _ (by decide +kernel)) ggX5_need_X5_isNode
set_option maxRecDepth 20000 in
theorem ggX5_need_X5_has : GoodIn wsX5_need wsX5_has := goodIn_r _ [9] (by decide +kernel) (by decide +kernel)
set_option maxRecDepth 20000 in
theorem gX5_need_X5_has : GoodIn wsX5_need (va_wsS RX5 47 yX5_has wsX5_has) := goodIn_app (goodIn_of _ (by decide +kernel)) ggX5_need_X5_has
set_option maxRecDepth 20000 in
theorem ggX5_need_X5_goes : GoodIn wsX5_need wsX5_goes := goodIn_r _ [13, 14, 19, 20, 21, 22, 23, 24, 25, 26, 27, 28, 29, 30, 31, 32, 33, 34] (by decide +kernel) (by decide +kernel)
set_option maxRecDepth 20000 in
theorem gX5_need_X5_goes : GoodIn wsX5_need (wsV RX5 55 RX5 yX5_goes wsX5_goes) := goodIn_app (goodIn_of _ (by decide +kernel)) ggX5_need_X5_goes
set_option maxRecDepth 20000 in
theorem ggX5_need_X5_closes : GoodIn wsX5_need wsX5_closes := goodIn_r _ [18, 1, 2, 7, 8, 5, 9, 19, 20, 21, 22, 23, 24, 25, 26, 27, 28, 29, 30, 31, 32, 33, 34] (by decide +kernel) (by decide +kernel)
set_option maxRecDepth 20000 in
theorem gX5_need_X5_closes : GoodIn wsX5_need (wsV RX5 59 RX5 yX5_closes wsX5_closes) := goodIn_app (goodIn_of _ (by decide +kernel)) ggX5_need_X5_closes
set_option maxRecDepth 20000 in
theorem ggX5_release_X5_isNode : GoodIn wsX5_release wsX5_isNode := goodIn_r _ [5] (by decide +kernel) (by decide +kernel)
set_option maxRecDepth 20000 in
theorem gX5_release_X5_isNode : GoodIn wsX5_release (va_wsS RX5 51 yX5_isNode wsX5_isNode) := goodIn_app (goodIn_of _ (by decide +kernel)) ggX5_release_X5_isNode
set_option maxRecDepth 20000 in
theorem ggX5_release_X5_goes : GoodIn wsX5_release wsX5_goes := goodIn_r _ [9, 10, 19, 20, 21, 22, 23, 24, 25, 26, 27, 28, 29, 30, 31, 32, 33, 34] (by decide +kernel) (by decide +kernel)
set_option maxRecDepth 20000 in
theorem gX5_release_X5_goes : GoodIn wsX5_release (wsV RX5 55 RX5 yX5_goes wsX5_goes) := goodIn_app (goodIn_of _ (by decide +kernel)) ggX5_release_X5_goes
set_option maxRecDepth 20000 in
theorem ggX5_release_X5_has : GoodIn wsX5_release wsX5_has := goodIn_r _ [13] (by decide +kernel) (by decide +kernel)
set_option maxRecDepth 20000 in
theorem gX5_release_X5_has : GoodIn wsX5_release (va_wsS RX5 47 yX5_has wsX5_has) := goodIn_app (goodIn_of _ (by decide +kernel)) ggX5_release_X5_has
set_option maxRecDepth 20000 in
theorem ggX5_release_X5_closes : GoodIn wsX5_release wsX5_closes := goodIn_r _ [17, 18, 1, 11, 12, 4, 13, 19, 20, 21, 22, 23, 24, 25, 26, 27, 28, 29, 30, 31, 32, 33, 34] (by decide +kernel) (by decide +kernel)
set_option maxRecDepth 20000 in
theorem gX5_release_X5_closes : GoodIn wsX5_release (wsV RX5 59 RX5 yX5_closes wsX5_closes) := goodIn_app (goodIn_of _ (by decide +kernel)) ggX5_release_X5_closes
set_option maxRecDepth 20000 in
theorem ggX5_needs_X5_isNode : GoodIn wsX5_needs wsX5_isNode := goodIn_r _ [5] (by decide +kernel) (by decide +kernel)
set_option maxRecDepth 20000 in
theorem gX5_needs_X5_isNode : GoodIn wsX5_needs (va_wsS RX5 51 yX5_isNode wsX5_isNode) := goodIn_app (goodIn_of _ (by decide +kernel)) ggX5_needs_X5_isNode
set_option maxRecDepth 20000 in
theorem ggX5_needs_X5_goes : GoodIn wsX5_needs wsX5_goes := goodIn_r _ [9, 10, 14, 15, 16, 17, 18, 19, 20, 21, 22, 23, 24, 25, 26, 27, 28, 29] (by decide +kernel) (by decide +kernel)
set_option maxRecDepth 20000 in
theorem gX5_needs_X5_goes : GoodIn wsX5_needs (wsV RX5 55 RX5 yX5_goes wsX5_goes) := goodIn_app (goodIn_of _ (by decide +kernel)) ggX5_needs_X5_goes
set_option maxRecDepth 20000 in
theorem ggX5_needs_X5_has : GoodIn wsX5_needs wsX5_has := goodIn_r _ [13] (by decide +kernel) (by decide +kernel)
set_option maxRecDepth 20000 in
theorem gX5_needs_X5_has : GoodIn wsX5_needs (va_wsS RX5 47 yX5_has wsX5_has) := goodIn_app (goodIn_of _ (by decide +kernel)) ggX5_needs_X5_has
set_option maxRecDepth 20000 in
theorem ggX5_dependsOn_X5_isNode : GoodIn wsX5_dependsOn wsX5_isNode := goodIn_r _ [5] (by decide +kernel) (by decide +kernel)
set_option maxRecDepth 20000 in
theorem gX5_dependsOn_X5_isNode : GoodIn wsX5_dependsOn (va_wsS RX5 51 yX5_isNode wsX5_isNode) := goodIn_app (goodIn_of _ (by decide +kernel)) ggX5_dependsOn_X5_isNode
set_option maxRecDepth 20000 in
theorem ggX5_dependsOn_X5_goes : GoodIn wsX5_dependsOn wsX5_goes := goodIn_r _ [9, 10, 14, 15, 16, 17, 18, 19, 20, 21, 22, 23, 24, 25, 26, 27, 28, 29] (by decide +kernel) (by decide +kernel)
set_option maxRecDepth 20000 in
theorem gX5_dependsOn_X5_goes : GoodIn wsX5_dependsOn (wsV RX5 55 RX5 yX5_goes wsX5_goes) := goodIn_app (goodIn_of _ (by decide +kernel)) ggX5_dependsOn_X5_goes
end
section
set_option maxRecDepth 20000 in
theorem ggX5_dependsOn_X5_has : GoodIn wsX5_dependsOn wsX5_has := goodIn_r _ [13] (by decide +kernel) (by decide +kernel)
set_option maxRecDepth 20000 in
theorem gX5_dependsOn_X5_has : GoodIn wsX5_dependsOn (va_wsS RX5 47 yX5_has wsX5_has) := goodIn_app (goodIn_of _ (by decide +kernel)) ggX5_dependsOn_X5_has
set_option maxRecDepth 20000 in
theorem ggX5_height_X5_isNode : GoodIn wsX5_height wsX5_isNode := goodIn_r _ [5] (by decide +kernel) (by decide +kernel)
set_option maxRecDepth 20000 in
theorem gX5_height_X5_isNode : GoodIn wsX5_height (va_wsS RX5 51 yX5_isNode wsX5_isNode) := goodIn_app (goodIn_of _ (by decide +kernel)) ggX5_height_X5_isNode
set_option maxRecDepth 20000 in
theorem ggX5_height_X5_goes : GoodIn wsX5_height wsX5_goes := goodIn_r _ [9, 10, 14, 15, 16, 17, 18, 19, 20, 21, 22, 23, 24, 25, 26, 27, 28, 29] (by decide +kernel) (by decide +kernel)
set_option maxRecDepth 20000 in
theorem gX5_height_X5_goes : GoodIn wsX5_height (wsV RX5 55 RX5 yX5_goes wsX5_goes) := goodIn_app (goodIn_of _ (by decide +kernel)) ggX5_height_X5_goes
set_option maxRecDepth 20000 in
theorem ggX5_height_X5_has : GoodIn wsX5_height wsX5_has := goodIn_r _ [13] (by decide +kernel) (by decide +kernel)
set_option maxRecDepth 20000 in
theorem gX5_height_X5_has : GoodIn wsX5_height (va_wsS RX5 47 yX5_has wsX5_has) := goodIn_app (goodIn_of _ (by decide +kernel)) ggX5_height_X5_has
set_option maxRecDepth 20000 in
theorem ggX5_tick_X5_goes : GoodIn wsX5_tick wsX5_goes := goodIn_r _ [6, 7, 8, 9, 10, 11, 12, 13, 14, 15, 16, 17, 18, 19, 20, 21, 22, 23] (by decide +kernel) (by decide +kernel)
set_option maxRecDepth 20000 in
theorem gX5_tick_X5_goes : GoodIn wsX5_tick (wsV RX5 55 RX5 yX5_goes wsX5_goes) := goodIn_app (goodIn_of _ (by decide +kernel)) ggX5_tick_X5_goes
set_option maxRecDepth 20000 in
theorem ggX5_kin_X5_has : GoodIn wsX5_kin wsX5_has := goodIn_r _ [5] (by decide +kernel) (by decide +kernel)
set_option maxRecDepth 20000 in
theorem gX5_kin_X5_has : GoodIn wsX5_kin (va_wsS RX5 47 yX5_has wsX5_has) := goodIn_app (goodIn_of _ (by decide +kernel)) ggX5_kin_X5_has
set_option maxRecDepth 20000 in
theorem ggX5_raise_X5_isNode : GoodIn wsX5_raise wsX5_isNode := goodIn_r _ [13] (by decide +kernel) (by decide +kernel)
set_option maxRecDepth 20000 in
theorem gX5_raise_X5_isNode : GoodIn wsX5_raise (va_wsS RX5 51 yX5_isNode wsX5_isNode) := goodIn_app (goodIn_of _ (by decide +kernel)) ggX5_raise_X5_isNode
set_option maxRecDepth 20000 in
theorem ggX5_raise_X5_has : GoodIn wsX5_raise wsX5_has := goodIn_r _ [16] (by decide +kernel) (by decide +kernel)
set_option maxRecDepth 20000 in
theorem gX5_raise_X5_has : GoodIn wsX5_raise (va_wsS RX5 47 yX5_has wsX5_has) := goodIn_app (goodIn_of _ (by decide +kernel)) ggX5_raise_X5_has
set_option maxRecDepth 20000 in
theorem ggX5_raise_X5_goes : GoodIn wsX5_raise wsX5_goes := goodIn_r _ [20, 21, 35, 36, 37, 38, 39, 40, 41, 42, 43, 44, 45, 46, 47, 48, 49, 50] (by decide +kernel) (by decide +kernel)
set_option maxRecDepth 20000 in
theorem gX5_raise_X5_goes : GoodIn wsX5_raise (wsV RX5 55 RX5 yX5_goes wsX5_goes) := goodIn_app (goodIn_of _ (by decide +kernel)) ggX5_raise_X5_goes
set_option maxRecDepth 20000 in
theorem ggX5_raise_X5_kin : GoodIn wsX5_raise wsX5_kin := goodIn_r _ [25, 26, 14, 15, 12, 16, 35, 36, 37, 38, 39, 40, 41, 42, 43, 44, 45, 46, 47, 48, 49, 50] (by decide +kernel) (by decide +kernel)
set_option maxRecDepth 20000 in
theorem gX5_raise_X5_kin : GoodIn wsX5_raise (wsV RX5 71 RX5 yX5_kin wsX5_kin) := goodIn_app (goodIn_of _ (by decide +kernel)) ggX5_raise_X5_kin
set_option maxRecDepth 20000 in
theorem ggX5_raise_X5_notes : GoodIn wsX5_raise wsX5_notes := goodIn_r _ [30, 31, 2, 32, 33, 9, 34, 35, 36, 37, 38, 39, 40, 41, 42, 43, 44, 45, 46, 47, 48, 49, 50] (by decide +kernel) (by decide +kernel)
set_option maxRecDepth 20000 in
theorem gX5_raise_X5_notes : GoodIn wsX5_raise (wsV RX5 78 RX5 yX5_notes wsX5_notes) := goodIn_app (goodIn_of _ (by decide +kernel)) ggX5_raise_X5_notes
set_option maxRecDepth 20000 in
theorem ggX5_clear_X5_isNode : GoodIn wsX5_clear wsX5_isNode := goodIn_r _ [11] (by decide +kernel) (by decide +kernel)
set_option maxRecDepth 20000 in
theorem gX5_clear_X5_isNode : GoodIn wsX5_clear (va_wsS RX5 51 yX5_isNode wsX5_isNode) := goodIn_app (goodIn_of _ (by decide +kernel)) ggX5_clear_X5_isNode
set_option maxRecDepth 20000 in
theorem ggX5_clear_X5_has : GoodIn wsX5_clear wsX5_has := goodIn_r _ [14] (by decide +kernel) (by decide +kernel)
set_option maxRecDepth 20000 in
theorem gX5_clear_X5_has : GoodIn wsX5_clear (va_wsS RX5 47 yX5_has wsX5_has) := goodIn_app (goodIn_of _ (by decide +kernel)) ggX5_clear_X5_has
set_option maxRecDepth 20000 in
theorem ggX5_clear_X5_goes : GoodIn wsX5_clear wsX5_goes := goodIn_r _ [18, 19, 31, 32, 33, 34, 35, 36, 37, 38, 39, 40, 41, 42, 43, 44, 45, 46] (by decide +kernel) (by decide +kernel)
set_option maxRecDepth 20000 in
theorem gX5_clear_X5_goes : GoodIn wsX5_clear (wsV RX5 55 RX5 yX5_goes wsX5_goes) := goodIn_app (goodIn_of _ (by decide +kernel)) ggX5_clear_X5_goes
set_option maxRecDepth 20000 in
theorem ggX5_clear_X5_notes : GoodIn wsX5_clear wsX5_notes := goodIn_r _ [23, 24, 2, 25, 26, 6, 27, 31, 32, 33, 34, 35, 36, 37, 38, 39, 40, 41, 42, 43, 44, 45, 46] (by decide +kernel) (by decide +kernel)
set_option maxRecDepth 20000 in
theorem gX5_clear_X5_notes : GoodIn wsX5_clear (wsV RX5 78 RX5 yX5_notes wsX5_notes) := goodIn_app (goodIn_of _ (by decide +kernel)) ggX5_clear_X5_notes
set_option maxRecDepth 20000 in
theorem ggX5_clear_X5_count : GoodIn wsX5_clear wsX5_count := goodIn_r _ [30] (by decide +kernel) (by decide +kernel)
set_option maxRecDepth 20000 in
theorem gX5_clear_X5_count : GoodIn wsX5_clear (va_wsS RX5 82 yX5_count wsX5_count) := goodIn_app (goodIn_of _ (by decide +kernel)) ggX5_clear_X5_count
set_option maxRecDepth 20000 in
theorem ggX5_stateOf_X5_has : GoodIn wsX5_stateOf wsX5_has := goodIn_r _ [6] (by decide +kernel) (by decide +kernel)
set_option maxRecDepth 20000 in
theorem gX5_stateOf_X5_has : GoodIn wsX5_stateOf (va_wsS RX5 47 yX5_has wsX5_has) := goodIn_app (goodIn_of _ (by decide +kernel)) ggX5_stateOf_X5_has
set_option maxRecDepth 20000 in
theorem ggX5_stateOf_X5_raisesOf : GoodIn wsX5_stateOf wsX5_raisesOf := goodIn_r _ [10, 11, 12, 13, 14, 15, 16, 17, 18, 19, 20, 21, 22, 23, 24, 25, 26, 27, 28, 29, 30, 31] (by decide +kernel) (by decide +kernel)
set_option maxRecDepth 20000 in
theorem gX5_stateOf_X5_raisesOf : GoodIn wsX5_stateOf (wsV RX5 85 RX5 yX5_raisesOf wsX5_raisesOf) := goodIn_app (goodIn_of _ (by decide +kernel)) ggX5_stateOf_X5_raisesOf
set_option maxRecDepth 20000 in
theorem ggX5_state_X5_isNode : GoodIn wsX5_state wsX5_isNode := goodIn_r _ [4] (by decide +kernel) (by decide +kernel)
set_option maxRecDepth 20000 in
theorem gX5_state_X5_isNode : GoodIn wsX5_state (va_wsS RX5 51 yX5_isNode wsX5_isNode) := goodIn_app (goodIn_of _ (by decide +kernel)) ggX5_state_X5_isNode
set_option maxRecDepth 20000 in
theorem ggX5_state_X5_goes : GoodIn wsX5_state wsX5_goes := goodIn_r _ [8, 9, 28, 29, 30, 31, 32, 33, 34, 35, 36, 37, 38, 39, 40, 41, 42, 43] (by decide +kernel) (by decide +kernel)
set_option maxRecDepth 20000 in
theorem gX5_state_X5_goes : GoodIn wsX5_state (wsV RX5 55 RX5 yX5_goes wsX5_goes) := goodIn_app (goodIn_of _ (by decide +kernel)) ggX5_state_X5_goes
set_option maxRecDepth 20000 in
theorem ggX5_state_X5_stateOf : GoodIn wsX5_state wsX5_stateOf := goodIn_r _ [13, 14, 15, 16, 17, 3, 18, 19, 20, 21, 22, 23, 24, 25, 26, 27, 28, 29, 30, 31, 32, 33, 34, 35, 36, 37, 38, 39, 40, 41, 42, 43] (by decide +kernel) (by decide +kernel)
set_option maxRecDepth 20000 in
theorem gX5_state_X5_stateOf : GoodIn wsX5_state (wsV RX5 89 RX5 yX5_stateOf wsX5_stateOf) := goodIn_app (goodIn_of _ (by decide +kernel)) ggX5_state_X5_stateOf
set_option maxRecDepth 20000 in
theorem ggX5_nodesThatAre_X5_goes : GoodIn wsX5_nodesThatAre wsX5_goes := goodIn_r _ [5, 6, 25, 26, 27, 28, 29, 30, 31, 32, 33, 34, 35, 36, 37, 38, 39, 40] (by decide +kernel) (by decide +kernel)
set_option maxRecDepth 20000 in
theorem gX5_nodesThatAre_X5_goes : GoodIn wsX5_nodesThatAre (wsV RX5 55 RX5 yX5_goes wsX5_goes) := goodIn_app (goodIn_of _ (by decide +kernel)) ggX5_nodesThatAre_X5_goes
set_option maxRecDepth 20000 in
theorem ggX5_nodesThatAre_X5_stateOf : GoodIn wsX5_nodesThatAre wsX5_stateOf := goodIn_r _ [10, 11, 12, 13, 14, 4, 15, 16, 17, 18, 19, 20, 21, 22, 23, 24, 25, 26, 27, 28, 29, 30, 31, 32, 33, 34, 35, 36, 37, 38, 39, 40] (by decide +kernel) (by decide +kernel)
set_option maxRecDepth 20000 in
theorem gX5_nodesThatAre_X5_stateOf : GoodIn wsX5_nodesThatAre (wsV RX5 89 RX5 yX5_stateOf wsX5_stateOf) := goodIn_app (goodIn_of _ (by decide +kernel)) ggX5_nodesThatAre_X5_stateOf
set_option maxRecDepth 20000 in
theorem ggX5_raises_X5_isNode : GoodIn wsX5_raises wsX5_isNode := goodIn_r _ [4] (by decide +kernel) (by decide +kernel)
set_option maxRecDepth 20000 in
theorem gX5_raises_X5_isNode : GoodIn wsX5_raises (va_wsS RX5 51 yX5_isNode wsX5_isNode) := goodIn_app (goodIn_of _ (by decide +kernel)) ggX5_raises_X5_isNode
set_option maxRecDepth 20000 in
theorem ggX5_raises_X5_goes : GoodIn wsX5_raises wsX5_goes := goodIn_r _ [8, 9, 19, 20, 21, 22, 23, 24, 25, 26, 27, 28, 29, 30, 31, 32, 33, 34] (by decide +kernel) (by decide +kernel)
set_option maxRecDepth 20000 in
theorem gX5_raises_X5_goes : GoodIn wsX5_raises (wsV RX5 55 RX5 yX5_goes wsX5_goes) := goodIn_app (goodIn_of _ (by decide +kernel)) ggX5_raises_X5_goes
set_option maxRecDepth 20000 in
theorem ggX5_raises_X5_raisesOf : GoodIn wsX5_raises wsX5_raisesOf := goodIn_r _ [13, 14, 15, 16, 17, 18, 19, 20, 21, 22, 23, 24, 25, 26, 27, 28, 29, 30, 31, 32, 33, 34] (by decide +kernel) (by decide +kernel)
set_option maxRecDepth 20000 in
theorem gX5_raises_X5_raisesOf : GoodIn wsX5_raises (wsV RX5 85 RX5 yX5_raisesOf wsX5_raisesOf) := goodIn_app (goodIn_of _ (by decide +kernel)) ggX5_raises_X5_raisesOf
set_option maxRecDepth 20000 in
theorem ggX5_isEvent_X5_goes : GoodIn wsX5_isEvent wsX5_goes := goodIn_r _ [6, 7, 8, 9, 10, 11, 12, 13, 14, 15, 16, 17, 18, 19, 20, 21, 22, 23] (by decide +kernel) (by decide +kernel)
set_option maxRecDepth 20000 in
theorem gX5_isEvent_X5_goes : GoodIn wsX5_isEvent (wsV RX5 55 RX5 yX5_goes wsX5_goes) := goodIn_app (goodIn_of _ (by decide +kernel)) ggX5_isEvent_X5_goes
set_option maxRecDepth 20000 in
theorem ggX5_eventKind_X5_isEvent : GoodIn wsX5_eventKind wsX5_isEvent := goodIn_r _ [6, 7, 8, 9, 10, 5, 11, 12, 13, 14, 15, 16, 17, 18, 19, 20, 21, 22, 23, 24, 25, 26, 27, 28] (by decide +kernel) (by decide +kernel)
set_option maxRecDepth 20000 in
theorem gX5_eventKind_X5_isEvent : GoodIn wsX5_eventKind (wsV RX5 92 RX5 yX5_isEvent wsX5_isEvent) := goodIn_app (goodIn_of _ (by decide +kernel)) ggX5_eventKind_X5_isEvent
set_option maxRecDepth 20000 in
theorem ggX5_eventNode_X5_isEvent : GoodIn wsX5_eventNode wsX5_isEvent := goodIn_r _ [6, 7, 8, 9, 10, 5, 11, 12, 13, 14, 15, 16, 17, 18, 19, 20, 21, 22, 23, 24, 25, 26, 27, 28] (by decide +kernel) (by decide +kernel)
set_option maxRecDepth 20000 in
theorem gX5_eventNode_X5_isEvent : GoodIn wsX5_eventNode (wsV RX5 92 RX5 yX5_isEvent wsX5_isEvent) := goodIn_app (goodIn_of _ (by decide +kernel)) ggX5_eventNode_X5_isEvent
set_option maxRecDepth 20000 in
theorem ggX5_eventTime_X5_isEvent : GoodIn wsX5_eventTime wsX5_isEvent := goodIn_r _ [6, 7, 8, 9, 10, 5, 11, 12, 13, 14, 15, 16, 17, 18, 19, 20, 21, 22, 23, 24, 25, 26, 27, 28] (by decide +kernel) (by decide +kernel)
set_option maxRecDepth 20000 in
theorem gX5_eventTime_X5_isEvent : GoodIn wsX5_eventTime (wsV RX5 92 RX5 yX5_isEvent wsX5_isEvent) := goodIn_app (goodIn_of _ (by decide +kernel)) ggX5_eventTime_X5_isEvent
set_option maxRecDepth 20000 in
theorem ggX5_eventLength_X5_isEvent : GoodIn wsX5_eventLength wsX5_isEvent := goodIn_r _ [6, 7, 8, 9, 10, 5, 11, 12, 13, 14, 15, 16, 17, 18, 19, 20, 21, 22, 23, 24, 25, 26, 27, 28] (by decide +kernel) (by decide +kernel)
set_option maxRecDepth 20000 in
theorem gX5_eventLength_X5_isEvent : GoodIn wsX5_eventLength (wsV RX5 92 RX5 yX5_isEvent wsX5_isEvent) := goodIn_app (goodIn_of _ (by decide +kernel)) ggX5_eventLength_X5_isEvent
set_option maxRecDepth 20000 in
theorem ggX5_ticketOf_X5_isNode : GoodIn wsX5_ticketOf wsX5_isNode := goodIn_r _ [6] (by decide +kernel) (by decide +kernel)
set_option maxRecDepth 20000 in
theorem gX5_ticketOf_X5_isNode : GoodIn wsX5_ticketOf (va_wsS RX5 51 yX5_isNode wsX5_isNode) := goodIn_app (goodIn_of _ (by decide +kernel)) ggX5_ticketOf_X5_isNode
set_option maxRecDepth 20000 in
theorem ggX5_ticketOf_X5_goes : GoodIn wsX5_ticketOf wsX5_goes := goodIn_r _ [10, 11, 15, 16, 17, 18, 19, 20, 21, 22, 23, 24, 25, 26, 27, 28, 29, 30] (by decide +kernel) (by decide +kernel)
set_option maxRecDepth 20000 in
theorem gX5_ticketOf_X5_goes : GoodIn wsX5_ticketOf (wsV RX5 55 RX5 yX5_goes wsX5_goes) := goodIn_app (goodIn_of _ (by decide +kernel)) ggX5_ticketOf_X5_goes
set_option maxRecDepth 20000 in
theorem ggX5_ticketOf_X5_has : GoodIn wsX5_ticketOf wsX5_has := goodIn_r _ [14] (by decide +kernel) (by decide +kernel)
set_option maxRecDepth 20000 in
theorem gX5_ticketOf_X5_has : GoodIn wsX5_ticketOf (va_wsS RX5 47 yX5_has wsX5_has) := goodIn_app (goodIn_of _ (by decide +kernel)) ggX5_ticketOf_X5_has
set_option maxRecDepth 20000 in
theorem ggX5_ticketState_X5_isTicket : GoodIn wsX5_ticketState wsX5_isTicket := goodIn_r _ [7, 8, 9, 10, 11, 12, 13, 14, 15, 16, 17, 18, 19, 20, 21, 22, 23, 24] (by decide +kernel) (by decide +kernel)
set_option maxRecDepth 20000 in
theorem gX5_ticketState_X5_isTicket : GoodIn wsX5_ticketState (wsV RX5 95 RX5 yX5_isTicket wsX5_isTicket) := goodIn_app (goodIn_of _ (by decide +kernel)) ggX5_ticketState_X5_isTicket
set_option maxRecDepth 20000 in
theorem ggX5_ticketSize_X5_isTicket : GoodIn wsX5_ticketSize wsX5_isTicket := goodIn_r _ [7, 8, 12, 13, 14, 15, 16, 17, 18, 19, 20, 21, 22, 23, 24, 25, 26, 27] (by decide +kernel) (by decide +kernel)
set_option maxRecDepth 20000 in
theorem gX5_ticketSize_X5_isTicket : GoodIn wsX5_ticketSize (wsV RX5 95 RX5 yX5_isTicket wsX5_isTicket) := goodIn_app (goodIn_of _ (by decide +kernel)) ggX5_ticketSize_X5_isTicket
set_option maxRecDepth 20000 in
theorem ggX5_ticketSize_X5_count : GoodIn wsX5_ticketSize wsX5_count := goodIn_r _ [11] (by decide +kernel) (by decide +kernel)
set_option maxRecDepth 20000 in
theorem gX5_ticketSize_X5_count : GoodIn wsX5_ticketSize (va_wsS RX5 82 yX5_count wsX5_count) := goodIn_app (goodIn_of _ (by decide +kernel)) ggX5_ticketSize_X5_count
set_option maxRecDepth 20000 in
theorem ggX5_mergedInto_X5_isTicket : GoodIn wsX5_mergedInto wsX5_isTicket := goodIn_r _ [8, 9, 10, 11, 12, 13, 14, 15, 16, 17, 18, 19, 20, 21, 22, 23, 24, 25] (by decide +kernel) (by decide +kernel)
set_option maxRecDepth 20000 in
theorem gX5_mergedInto_X5_isTicket : GoodIn wsX5_mergedInto (wsV RX5 95 RX5 yX5_isTicket wsX5_isTicket) := goodIn_app (goodIn_of _ (by decide +kernel)) ggX5_mergedInto_X5_isTicket
set_option maxRecDepth 20000 in
theorem ggX5_plausible_X5_has : GoodIn wsX5_plausible wsX5_has := goodIn_r _ [6] (by decide +kernel) (by decide +kernel)
set_option maxRecDepth 20000 in
theorem gX5_plausible_X5_has : GoodIn wsX5_plausible (va_wsS RX5 47 yX5_has wsX5_has) := goodIn_app (goodIn_of _ (by decide +kernel)) ggX5_plausible_X5_has
set_option maxRecDepth 20000 in
theorem ggX5_isPlausible_X5_isNode : GoodIn wsX5_isPlausible wsX5_isNode := goodIn_r _ [4] (by decide +kernel) (by decide +kernel)
set_option maxRecDepth 20000 in
theorem gX5_isPlausible_X5_isNode : GoodIn wsX5_isPlausible (va_wsS RX5 51 yX5_isNode wsX5_isNode) := goodIn_app (goodIn_of _ (by decide +kernel)) ggX5_isPlausible_X5_isNode
set_option maxRecDepth 20000 in
theorem ggX5_isPlausible_X5_goes : GoodIn wsX5_isPlausible wsX5_goes := goodIn_r _ [8, 9, 19, 20, 21, 22, 23, 24, 25, 26, 27, 28, 29, 30, 31, 32, 33, 34] (by decide +kernel) (by decide +kernel)
set_option maxRecDepth 20000 in
theorem gX5_isPlausible_X5_goes : GoodIn wsX5_isPlausible (wsV RX5 55 RX5 yX5_goes wsX5_goes) := goodIn_app (goodIn_of _ (by decide +kernel)) ggX5_isPlausible_X5_goes
set_option maxRecDepth 20000 in
theorem ggX5_isPlausible_X5_plausible : GoodIn wsX5_isPlausible wsX5_plausible := goodIn_r _ [13, 14, 15, 16, 17, 3, 18, 19, 20, 21, 22, 23, 24, 25, 26, 27, 28, 29, 30, 31, 32, 33, 34] (by decide +kernel) (by decide +kernel)
set_option maxRecDepth 20000 in
theorem gX5_isPlausible_X5_plausible : GoodIn wsX5_isPlausible (wsV RX5 98 RX5 yX5_plausible wsX5_plausible) := goodIn_app (goodIn_of _ (by decide +kernel)) ggX5_isPlausible_X5_plausible
set_option maxRecDepth 20000 in
theorem ggX5_explains_X5_has : GoodIn wsX5_explains wsX5_has := goodIn_r _ [5] (by decide +kernel) (by decide +kernel)
set_option maxRecDepth 20000 in
theorem gX5_explains_X5_has : GoodIn wsX5_explains (va_wsS RX5 47 yX5_has wsX5_has) := goodIn_app (goodIn_of _ (by decide +kernel)) ggX5_explains_X5_has
set_option maxRecDepth 20000 in
theorem ggX5_explained_X5_has : GoodIn wsX5_explained wsX5_has := goodIn_r _ [5] (by decide +kernel) (by decide +kernel)
set_option maxRecDepth 20000 in
theorem gX5_explained_X5_has : GoodIn wsX5_explained (va_wsS RX5 47 yX5_has wsX5_has) := goodIn_app (goodIn_of _ (by decide +kernel)) ggX5_explained_X5_has
set_option maxRecDepth 20000 in
theorem ggX5_isBetter_X5_count : GoodIn wsX5_isBetter wsX5_count := goodIn_r _ [5] (by decide +kernel) (by decide +kernel)
set_option maxRecDepth 20000 in
theorem gX5_isBetter_X5_count : GoodIn wsX5_isBetter (va_wsS RX5 82 yX5_count wsX5_count) := goodIn_app (goodIn_of _ (by decide +kernel)) ggX5_isBetter_X5_count
set_option maxRecDepth 20000 in
theorem ggX5_best_X5_plausible : GoodIn wsX5_best wsX5_plausible := goodIn_r _ [6, 7, 1, 8, 9, 5, 10, 23, 24, 25, 26, 27, 28, 29, 30, 31, 32, 33, 34, 35, 36, 37, 38] (by decide +kernel) (by decide +kernel)
set_option maxRecDepth 20000 in
theorem gX5_best_X5_plausible : GoodIn wsX5_best (wsV RX5 98 RX5 yX5_plausible wsX5_plausible) := goodIn_app (goodIn_of _ (by decide +kernel)) ggX5_best_X5_plausible
set_option maxRecDepth 20000 in
theorem ggX5_best_X5_isBetter : GoodIn wsX5_best wsX5_isBetter := goodIn_r _ [14, 1, 15, 16, 5, 17, 23, 24, 25, 26, 27, 28, 29, 30, 31, 32, 33, 34, 35, 36, 37, 38] (by decide +kernel) (by decide +kernel)
set_option maxRecDepth 20000 in
theorem gX5_best_X5_isBetter : GoodIn wsX5_best (wsV RX5 101 RX5 yX5_isBetter wsX5_isBetter) := goodIn_app (goodIn_of _ (by decide +kernel)) ggX5_best_X5_isBetter
set_option maxRecDepth 20000 in
theorem ggX5_best_X5_explained : GoodIn wsX5_best wsX5_explained := goodIn_r _ [21, 22, 8, 9, 5, 10, 23, 24, 25, 26, 27, 28, 29, 30, 31, 32, 33, 34, 35, 36, 37, 38] (by decide +kernel) (by decide +kernel)
set_option maxRecDepth 20000 in
theorem gX5_best_X5_explained : GoodIn wsX5_best (wsV RX5 104 RX5 yX5_explained wsX5_explained) := goodIn_app (goodIn_of _ (by decide +kernel)) ggX5_best_X5_explained
set_option maxRecDepth 20000 in
theorem ggX5_causes_X5_best : GoodIn wsX5_causes wsX5_best := goodIn_r _ [6, 7, 8, 9, 10, 5, 11, 12, 13, 14, 15, 16, 17, 18, 19, 20, 21, 22, 23, 24, 25, 26, 27, 28, 29, 30, 31, 32, 33, 34, 35, 36, 37, 38, 39, 40, 41, 42, 43] (by decide +kernel) (by decide +kernel)
set_option maxRecDepth 20000 in
theorem gX5_causes_X5_best : GoodIn wsX5_causes (wsV RX5 107 RX5 yX5_best wsX5_best) := goodIn_app (goodIn_of _ (by decide +kernel)) ggX5_causes_X5_best
set_option maxRecDepth 20000 in
theorem ggX5_causes_X5_count : GoodIn wsX5_causes wsX5_count := goodIn_r _ [22] (by decide +kernel) (by decide +kernel)
set_option maxRecDepth 20000 in
theorem gX5_causes_X5_count : GoodIn wsX5_causes (va_wsS RX5 82 yX5_count wsX5_count) := goodIn_app (goodIn_of _ (by decide +kernel)) ggX5_causes_X5_count
set_option maxRecDepth 20000 in
theorem ggX5_cause_X5_best : GoodIn wsX5_cause wsX5_best := goodIn_r _ [5, 6, 7, 8, 9, 4, 10, 11, 12, 13, 14, 15, 16, 17, 18, 19, 20, 21, 22, 23, 24, 25, 26, 35, 36, 37, 38, 39, 40, 41, 42, 43, 44, 45, 46, 47, 48, 49, 50] (by decide +kernel) (by decide +kernel)
set_option maxRecDepth 20000 in
theorem gX5_cause_X5_best : GoodIn wsX5_cause (wsV RX5 107 RX5 yX5_best wsX5_best) := goodIn_app (goodIn_of _ (by decide +kernel)) ggX5_cause_X5_best
set_option maxRecDepth 20000 in
theorem ggX5_cause_X5_count : GoodIn wsX5_cause wsX5_count := goodIn_r _ [21] (by decide +kernel) (by decide +kernel)
set_option maxRecDepth 20000 in
theorem gX5_cause_X5_count : GoodIn wsX5_cause (va_wsS RX5 82 yX5_count wsX5_count) := goodIn_app (goodIn_of _ (by decide +kernel)) ggX5_cause_X5_count
set_option maxRecDepth 20000 in
theorem ggX5_cause_X5_goes : GoodIn wsX5_cause wsX5_goes := goodIn_r _ [30, 31, 35, 36, 37, 38, 39, 40, 41, 42, 43, 44, 45, 46, 47, 48, 49, 50] (by decide +kernel) (by decide +kernel)
set_option maxRecDepth 20000 in
theorem gX5_cause_X5_goes : GoodIn wsX5_cause (wsV RX5 55 RX5 yX5_goes wsX5_goes) := goodIn_app (goodIn_of _ (by decide +kernel)) ggX5_cause_X5_goes
set_option maxRecDepth 20000 in
theorem ggX5_cause_X5_at : GoodIn wsX5_cause wsX5_at := goodIn_r _ [34, 12, 13, 4, 14] (by decide +kernel) (by decide +kernel)
set_option maxRecDepth 20000 in
theorem gX5_cause_X5_at : GoodIn wsX5_cause (va_wsS RX5 111 yX5_at wsX5_at) := goodIn_app (goodIn_of _ (by decide +kernel)) ggX5_cause_X5_at
set_option maxRecDepth 20000 in
theorem ggX5_causeByTrying_X5_cause : GoodIn wsX5_causeByTrying wsX5_cause := goodIn_r _ [5, 6, 7, 8, 4, 9, 10, 11, 12, 13, 14, 15, 16, 17, 18, 19, 20, 21, 22, 23, 24, 25, 26, 27, 28, 29, 30, 31, 32, 33, 34, 35, 36, 37, 38, 39, 40, 41, 42, 43, 44, 45, 46, 47, 48, 49, 50, 51, 52, 53, 54] (by decide +kernel) (by decide +kernel)
set_option maxRecDepth 20000 in
theorem gX5_causeByTrying_X5_cause : GoodIn wsX5_causeByTrying (wsV RX5 114 RX5 yX5_cause wsX5_cause) := goodIn_app (goodIn_of _ (by decide +kernel)) ggX5_causeByTrying_X5_cause
set_option maxRecDepth 20000 in
theorem ggX5_joins_X5_plausible : GoodIn wsX5_joins wsX5_plausible := goodIn_r _ [6, 7, 1, 8, 9, 5, 10, 19, 20, 21, 22, 23, 24, 25, 26, 27, 28, 29, 30, 31, 32, 33, 34] (by decide +kernel) (by decide +kernel)
set_option maxRecDepth 20000 in
theorem gX5_joins_X5_plausible : GoodIn wsX5_joins (wsV RX5 98 RX5 yX5_plausible wsX5_plausible) := goodIn_app (goodIn_of _ (by decide +kernel)) ggX5_joins_X5_plausible
set_option maxRecDepth 20000 in
theorem ggX5_joins_X5_explains : GoodIn wsX5_joins wsX5_explains := goodIn_r _ [14, 15, 8, 9, 5, 10, 19, 20, 21, 22, 23, 24, 25, 26, 27, 28, 29, 30, 31, 32, 33, 34] (by decide +kernel) (by decide +kernel)
set_option maxRecDepth 20000 in
theorem gX5_joins_X5_explains : GoodIn wsX5_joins (wsV RX5 117 RX5 yX5_explains wsX5_explains) := goodIn_app (goodIn_of _ (by decide +kernel)) ggX5_joins_X5_explains
set_option maxRecDepth 20000 in
theorem ggX5_joins_X5_count : GoodIn wsX5_joins wsX5_count := goodIn_r _ [18] (by decide +kernel) (by decide +kernel)
set_option maxRecDepth 20000 in
theorem gX5_joins_X5_count : GoodIn wsX5_joins (va_wsS RX5 82 yX5_count wsX5_count) := goodIn_app (goodIn_of _ (by decide +kernel)) ggX5_joins_X5_count
set_option maxRecDepth 20000 in
theorem ggX5_joins_X5_has : GoodIn wsX5_joins wsX5_has := goodIn_r _ [10] (by decide +kernel) (by decide +kernel)
set_option maxRecDepth 20000 in
theorem gX5_joins_X5_has : GoodIn wsX5_joins (va_wsS RX5 47 yX5_has wsX5_has) := goodIn_app (goodIn_of _ (by decide +kernel)) ggX5_joins_X5_has
set_option maxRecDepth 20000 in
theorem ggX5_greedyCauses_X5_joins : GoodIn wsX5_greedyCauses wsX5_joins := goodIn_r _ [7, 2, 8, 9, 10, 6, 11, 12, 13, 14, 15, 16, 17, 18, 19, 20, 21, 22, 23, 24, 25, 26, 27, 28, 29, 30, 31, 32, 33, 34, 35, 36, 37, 38, 39] (by decide +kernel) (by decide +kernel)
set_option maxRecDepth 20000 in
theorem gX5_greedyCauses_X5_joins : GoodIn wsX5_greedyCauses (wsV RX5 120 RX5 yX5_joins wsX5_joins) := goodIn_app (goodIn_of _ (by decide +kernel)) ggX5_greedyCauses_X5_joins
set_option maxRecDepth 20000 in
theorem ggX5_greedyCauses_X5_explains : GoodIn wsX5_greedyCauses wsX5_explains := goodIn_r _ [19, 20, 13, 14, 6, 15, 24, 25, 26, 27, 28, 29, 30, 31, 32, 33, 34, 35, 36, 37, 38, 39] (by decide +kernel) (by decide +kernel)
set_option maxRecDepth 20000 in
theorem gX5_greedyCauses_X5_explains : GoodIn wsX5_greedyCauses (wsV RX5 117 RX5 yX5_explains wsX5_explains) := goodIn_app (goodIn_of _ (by decide +kernel)) ggX5_greedyCauses_X5_explains
set_option maxRecDepth 20000 in
theorem ggX5_greedyCause_X5_joins : GoodIn wsX5_greedyCause wsX5_joins := goodIn_r _ [6, 1, 7, 8, 9, 5, 10, 11, 12, 13, 14, 15, 16, 17, 18, 19, 20, 21, 22, 28, 29, 30, 31, 32, 33, 34, 35, 36, 37, 38, 39, 40, 41, 42, 43] (by decide +kernel) (by decide +kernel)
set_option maxRecDepth 20000 in
theorem gX5_greedyCause_X5_joins : GoodIn wsX5_greedyCause (wsV RX5 120 RX5 yX5_joins wsX5_joins) := goodIn_app (goodIn_of _ (by decide +kernel)) ggX5_greedyCause_X5_joins
set_option maxRecDepth 20000 in
theorem ggX5_greedyCause_X5_explains : GoodIn wsX5_greedyCause wsX5_explains := goodIn_r _ [18, 19, 12, 13, 5, 14, 28, 29, 30, 31, 32, 33, 34, 35, 36, 37, 38, 39, 40, 41, 42, 43] (by decide +kernel) (by decide +kernel)
set_option maxRecDepth 20000 in
theorem gX5_greedyCause_X5_explains : GoodIn wsX5_greedyCause (wsV RX5 117 RX5 yX5_explains wsX5_explains) := goodIn_app (goodIn_of _ (by decide +kernel)) ggX5_greedyCause_X5_explains
set_option maxRecDepth 20000 in
theorem ggX5_greedyCause_X5_goes : GoodIn wsX5_greedyCause wsX5_goes := goodIn_r _ [26, 27, 28, 29, 30, 31, 32, 33, 34, 35, 36, 37, 38, 39, 40, 41, 42, 43] (by decide +kernel) (by decide +kernel)
set_option maxRecDepth 20000 in
theorem gX5_greedyCause_X5_goes : GoodIn wsX5_greedyCause (wsV RX5 55 RX5 yX5_goes wsX5_goes) := goodIn_app (goodIn_of _ (by decide +kernel)) ggX5_greedyCause_X5_goes
set_option maxRecDepth 20000 in
theorem ggX5_causeOf_X5_isNode : GoodIn wsX5_causeOf wsX5_isNode := goodIn_r _ [5] (by decide +kernel) (by decide +kernel)
set_option maxRecDepth 20000 in
theorem gX5_causeOf_X5_isNode : GoodIn wsX5_causeOf (va_wsS RX5 51 yX5_isNode wsX5_isNode) := goodIn_app (goodIn_of _ (by decide +kernel)) ggX5_causeOf_X5_isNode
set_option maxRecDepth 20000 in
theorem ggX5_causeOf_X5_goes : GoodIn wsX5_causeOf wsX5_goes := goodIn_r _ [9, 10, 39, 40, 41, 42, 43, 44, 45, 46, 47, 48, 49, 50, 51, 52, 53, 54] (by decide +kernel) (by decide +kernel)
set_option maxRecDepth 20000 in
theorem gX5_causeOf_X5_goes : GoodIn wsX5_causeOf (wsV RX5 55 RX5 yX5_goes wsX5_goes) := goodIn_app (goodIn_of _ (by decide +kernel)) ggX5_causeOf_X5_goes
set_option maxRecDepth 20000 in
theorem ggX5_causeOf_X5_best : GoodIn wsX5_causeOf wsX5_best := goodIn_r _ [14, 1, 15, 16, 17, 4, 18, 19, 20, 21, 22, 23, 24, 25, 26, 27, 28, 29, 30, 31, 32, 33, 34, 39, 40, 41, 42, 43, 44, 45, 46, 47, 48, 49, 50, 51, 52, 53, 54] (by decide +kernel) (by decide +kernel)
set_option maxRecDepth 20000 in
theorem gX5_causeOf_X5_best : GoodIn wsX5_causeOf (wsV RX5 107 RX5 yX5_best wsX5_best) := goodIn_app (goodIn_of _ (by decide +kernel)) ggX5_causeOf_X5_best
set_option maxRecDepth 20000 in
theorem ggX5_causeOf_X5_has : GoodIn wsX5_causeOf wsX5_has := goodIn_r _ [22] (by decide +kernel) (by decide +kernel)
set_option maxRecDepth 20000 in
theorem gX5_causeOf_X5_has : GoodIn wsX5_causeOf (va_wsS RX5 47 yX5_has wsX5_has) := goodIn_app (goodIn_of _ (by decide +kernel)) ggX5_causeOf_X5_has
set_option maxRecDepth 20000 in
theorem ggX5_causeOf_X5_explains : GoodIn wsX5_causeOf wsX5_explains := goodIn_r _ [38, 34, 20, 21, 4, 22, 39, 40, 41, 42, 43, 44, 45, 46, 47, 48, 49, 50, 51, 52, 53, 54] (by decide +kernel) (by decide +kernel)
set_option maxRecDepth 20000 in
theorem gX5_causeOf_X5_explains : GoodIn wsX5_causeOf (wsV RX5 117 RX5 yX5_explains wsX5_explains) := goodIn_app (goodIn_of _ (by decide +kernel)) ggX5_causeOf_X5_explains
set_option maxRecDepth 20000 in
theorem ggL_need_X4_need : GoodIn wsL_need wsX4_need := goodIn_ca (goodIn_ca (goodIn_r _ [7, 8, 9, 10, 11, 12, 6, 13, 14, 15, 16, 17, 18, 19, 20, 21, 22, 23, 24, 25, 26, 27, 28, 29, 30, 31, 32, 33, 34, 35, 36, 37, 38, 39, 40, 41, 42, 43, 44, 45, 46, 47, 48, 49, 50, 51, 52, 53] (by decide +kernel) (by decide +kernel)) (goodIn_sub (fun _ h => List.mem_cons_of_mem _ (List.mem_append_left _ (List.mem_append_right _ h))) (by decide +kernel))) (goodIn_sub (fun _ h => List.mem_cons_of_mem _ (List.mem_append_right _ h)) (by decide +kernel))
set_option maxRecDepth 20000 in
theorem gL_need_X4_need : GoodIn wsL_need (wsV RL 7 RX4 yX4_need wsX4_need) := goodIn_app (goodIn_of _ (by decide +kernel)) ggL_need_X4_need
set_option maxRecDepth 20000 in
theorem ggL_release_X4_release : GoodIn wsL_release wsX4_release := goodIn_ca (goodIn_r _ [6, 7, 8, 9, 5, 10, 11, 12, 13, 14, 15, 16, 17, 18, 19, 20, 21, 22, 23, 24, 25, 26, 27, 28, 29, 30, 31, 32, 33, 34, 35, 36, 37, 38, 39, 40, 41, 42, 43, 44, 45] (by decide +kernel) (by decide +kernel)) (goodIn_sub (fun _ h => List.mem_cons_of_mem _ (List.mem_append_right _ h)) (by decide +kernel))
set_option maxRecDepth 20000 in
theorem gL_release_X4_release : GoodIn wsL_release (wsV RL 17 RX4 yX4_release wsX4_release) := goodIn_app (goodIn_of _ (by decide +kernel)) ggL_release_X4_release
set_option maxRecDepth 20000 in
theorem ggL_needs_X4_needs : GoodIn wsL_needs wsX4_needs := goodIn_ca (goodIn_r _ [6, 7, 8, 9, 5, 10, 11, 12, 13, 14, 15, 16, 17, 18, 19, 20, 21, 22, 23, 24, 25, 26, 27, 28, 29, 30, 31, 32, 33] (by decide +kernel) (by decide +kernel)) (goodIn_sub (fun _ h => List.mem_cons_of_mem _ (List.mem_append_right _ h)) (by decide +kernel))
set_option maxRecDepth 20000 in
theorem gL_needs_X4_needs : GoodIn wsL_needs (wsV RL 20 RX4 yX4_needs wsX4_needs) := goodIn_app (goodIn_of _ (by decide +kernel)) ggL_needs_X4_needs
set_option maxRecDepth 20000 in
theorem ggL_dependsOn_X4_dependsOn : GoodIn wsL_dependsOn wsX4_dependsOn := goodIn_ca (goodIn_r _ [6, 7, 8, 9, 5, 10, 11, 12, 13, 14, 15, 16, 17, 18, 19, 20, 21, 22, 23, 24, 25, 26, 27, 28, 29, 30, 31, 32, 33] (by decide +kernel) (by decide +kernel)) (goodIn_sub (fun _ h => List.mem_cons_of_mem _ (List.mem_append_right _ h)) (by decide +kernel))
set_option maxRecDepth 20000 in
theorem gL_dependsOn_X4_dependsOn : GoodIn wsL_dependsOn (wsV RL 23 RX4 yX4_dependsOn wsX4_dependsOn) := goodIn_app (goodIn_of _ (by decide +kernel)) ggL_dependsOn_X4_dependsOn
set_option maxRecDepth 20000 in
theorem ggL_height_X4_height : GoodIn wsL_height wsX4_height := goodIn_ca (goodIn_r _ [6, 7, 8, 9, 5, 10, 11, 12, 13, 14, 15, 16, 17, 18, 19, 20, 21, 22, 23, 24, 25, 26, 27, 28, 29, 30, 31, 32, 33, 34, 35] (by decide +kernel) (by decide +kernel)) (goodIn_sub (fun _ h => List.mem_cons_of_mem _ (List.mem_append_right _ h)) (by decide +kernel))
set_option maxRecDepth 20000 in
theorem gL_height_X4_height : GoodIn wsL_height (wsV RL 26 RX4 yX4_height wsX4_height) := goodIn_app (goodIn_of _ (by decide +kernel)) ggL_height_X4_height
set_option maxRecDepth 20000 in
theorem ggL_tick_X4_tick : GoodIn wsL_tick wsX4_tick := goodIn_ca (goodIn_r _ [6, 7, 8, 9, 5, 10, 11, 12, 13, 14, 15, 16, 17] (by decide +kernel) (by decide +kernel)) (goodIn_sub (fun _ h => List.mem_cons_of_mem _ (List.mem_append_right _ h)) (by decide +kernel))
set_option maxRecDepth 20000 in
theorem gL_tick_X4_tick : GoodIn wsL_tick (wsV RL 30 RX4 yX4_tick wsX4_tick) := goodIn_app (goodIn_of _ (by decide +kernel)) ggL_tick_X4_tick
set_option maxRecDepth 20000 in
theorem ggL_raise_X4_raise : GoodIn wsL_raise wsX4_raise := goodIn_ca (goodIn_ca (goodIn_r _ [7, 8, 9, 10, 11, 12, 13, 14, 6, 15, 16, 17, 18, 19, 20, 21, 22, 23, 24, 25, 26, 27, 28, 29, 30, 31, 32, 33, 34, 35, 36, 37, 38, 39, 40, 41, 42, 43, 44, 45, 46, 47, 48, 49, 50, 51, 52, 53, 54, 55, 56, 57, 58, 59, 60, 61, 62, 63, 64, 65, 66, 67, 68, 69, 70, 71, 72, 73, 74, 75, 76, 77, 78, 79, 80, 81, 82, 83, 84, 85, 86, 87, 88, 89, 90, 91, 92, 93, 94, 95, 96, 97, 98, 99, 100, 101, 102, 103] (by decide +kernel) (by decide +kernel)) (goodIn_sub (fun _ h => List.mem_cons_of_mem _ (List.mem_append_left _ (List.mem_append_right _ h))) (by decide +kernel))) (goodIn_sub (fun _ h => List.mem_cons_of_mem _ (List.mem_append_right _ h)) (by decide +kernel))
end
section
set_option maxRecDepth 20000 in
theorem gL_raise_X4_raise : GoodIn wsL_raise (wsV RL 33 RX4 yX4_raise wsX4_raise) := goodIn_app (goodIn_of _ (by decide +kernel)) ggL_raise_X4_raise
set_option maxRecDepth 20000 in
theorem ggL_clear_X4_clear : GoodIn wsL_clear wsX4_clear := goodIn_ca (goodIn_ca (goodIn_r _ [7, 8, 9, 10, 11, 12, 13, 6, 14, 15, 16, 17, 18, 19, 20, 21, 22, 23, 24, 25, 26, 27, 28, 29, 30, 31, 32, 33, 34, 35, 36, 37, 38, 39, 40, 41, 42, 43, 44, 45, 46, 47, 48, 49, 50, 51, 52, 53, 54, 55, 56, 57, 58, 59, 60, 61, 62, 63, 64, 65, 66, 67, 68, 69] (by decide +kernel) (by decide +kernel)) (goodIn_sub (fun _ h => List.mem_cons_of_mem _ (List.mem_append_left _ (List.mem_append_right _ h))) (by decide +kernel))) (goodIn_sub (fun _ h => List.mem_cons_of_mem _ (List.mem_append_right _ h)) (by decide +kernel))
set_option maxRecDepth 20000 in
theorem gL_clear_X4_clear : GoodIn wsL_clear (wsV RL 38 RX4 yX4_clear wsX4_clear) := goodIn_app (goodIn_of _ (by decide +kernel)) ggL_clear_X4_clear
set_option maxRecDepth 20000 in
theorem ggL_state_X4_state : GoodIn wsL_state wsX4_state := goodIn_ca (goodIn_r _ [6, 7, 8, 5, 9, 10, 11, 12, 13, 14, 15, 16, 17, 18, 19, 20, 21, 22, 23, 24, 25, 26, 27, 28, 29, 30, 31, 32, 33, 34, 35, 36, 37, 38, 39, 40, 41, 42, 43, 44, 45, 46, 47, 48, 49, 50, 51, 52, 53, 54, 55] (by decide +kernel) (by decide +kernel)) (goodIn_sub (fun _ h => List.mem_cons_of_mem _ (List.mem_append_right _ h)) (by decide +kernel))
set_option maxRecDepth 20000 in
theorem gL_state_X4_state : GoodIn wsL_state (wsV RL 41 RX4 yX4_state wsX4_state) := goodIn_app (goodIn_of _ (by decide +kernel)) ggL_state_X4_state
set_option maxRecDepth 20000 in
theorem ggL_nodesThatAre_X4_nodesThatAre : GoodIn wsL_nodesThatAre wsX4_nodesThatAre := goodIn_ca (goodIn_r _ [6, 7, 8, 9, 10, 11, 5, 12, 13, 14, 15, 16, 17, 18, 19, 20, 21, 22, 23, 24, 25, 26, 27, 28, 29, 30, 31, 32, 33, 34, 35, 36, 37, 38, 39, 40, 41, 42, 43, 44, 45, 46, 47, 48, 49, 50, 51, 52] (by decide +kernel) (by decide +kernel)) (goodIn_sub (fun _ h => List.mem_cons_of_mem _ (List.mem_append_right _ h)) (by decide +kernel))
set_option maxRecDepth 20000 in
theorem gL_nodesThatAre_X4_nodesThatAre : GoodIn wsL_nodesThatAre (wsV RL 44 RX4 yX4_nodesThatAre wsX4_nodesThatAre) := goodIn_app (goodIn_of _ (by decide +kernel)) ggL_nodesThatAre_X4_nodesThatAre
set_option maxRecDepth 20000 in
theorem ggL_raises_X4_raises : GoodIn wsL_raises wsX4_raises := goodIn_ca (goodIn_ca (goodIn_r _ [7, 8, 9, 10, 11, 6, 12, 13, 14, 15, 16, 17, 18, 19, 20, 21, 22, 23, 24, 25, 26, 27, 28, 29, 30, 31, 32, 33, 34, 35, 36, 37, 38, 39] (by decide +kernel) (by decide +kernel)) (goodIn_sub (fun _ h => List.mem_cons_of_mem _ (List.mem_append_left _ (List.mem_append_right _ h))) (by decide +kernel))) (goodIn_sub (fun _ h => List.mem_cons_of_mem _ (List.mem_append_right _ h)) (by decide +kernel))
set_option maxRecDepth 20000 in
theorem gL_raises_X4_raises : GoodIn wsL_raises (wsV RL 47 RX4 yX4_raises wsX4_raises) := goodIn_app (goodIn_of _ (by decide +kernel)) ggL_raises_X4_raises
set_option maxRecDepth 20000 in
theorem ggL_eventKind_X4_eventKind : GoodIn wsL_eventKind wsX4_eventKind := goodIn_ca (goodIn_r _ [6, 7, 8, 9, 10, 5, 11, 12, 13, 14, 15, 16, 17, 18, 19, 20, 21, 22, 23, 24, 25, 26, 27, 28, 29, 30, 31, 32, 33, 34, 35] (by decide +kernel) (by decide +kernel)) (goodIn_sub (fun _ h => List.mem_cons_of_mem _ (List.mem_append_right _ h)) (by decide +kernel))
set_option maxRecDepth 20000 in
theorem gL_eventKind_X4_eventKind : GoodIn wsL_eventKind (wsV RL 51 RX4 yX4_eventKind wsX4_eventKind) := goodIn_app (goodIn_of _ (by decide +kernel)) ggL_eventKind_X4_eventKind
set_option maxRecDepth 20000 in
theorem ggL_eventNode_X4_eventNode : GoodIn wsL_eventNode wsX4_eventNode := goodIn_ca (goodIn_r _ [6, 7, 8, 9, 10, 5, 11, 12, 13, 14, 15, 16, 17, 18, 19, 20, 21, 22, 23, 24, 25, 26, 27, 28, 29, 30, 31, 32, 33, 34, 35] (by decide +kernel) (by decide +kernel)) (goodIn_sub (fun _ h => List.mem_cons_of_mem _ (List.mem_append_right _ h)) (by decide +kernel))
set_option maxRecDepth 20000 in
theorem gL_eventNode_X4_eventNode : GoodIn wsL_eventNode (wsV RL 54 RX4 yX4_eventNode wsX4_eventNode) := goodIn_app (goodIn_of _ (by decide +kernel)) ggL_eventNode_X4_eventNode
set_option maxRecDepth 20000 in
theorem ggL_eventTime_X4_eventTime : GoodIn wsL_eventTime wsX4_eventTime := goodIn_ca (goodIn_r _ [6, 7, 8, 9, 10, 5, 11, 12, 13, 14, 15, 16, 17, 18, 19, 20, 21, 22, 23, 24, 25, 26, 27, 28, 29, 30, 31, 32, 33, 34, 35] (by decide +kernel) (by decide +kernel)) (goodIn_sub (fun _ h => List.mem_cons_of_mem _ (List.mem_append_right _ h)) (by decide +kernel))
set_option maxRecDepth 20000 in
theorem gL_eventTime_X4_eventTime : GoodIn wsL_eventTime (wsV RL 57 RX4 yX4_eventTime wsX4_eventTime) := goodIn_app (goodIn_of _ (by decide +kernel)) ggL_eventTime_X4_eventTime
set_option maxRecDepth 20000 in
theorem ggL_eventLength_X4_eventLength : GoodIn wsL_eventLength wsX4_eventLength := goodIn_ca (goodIn_r _ [6, 7, 8, 9, 10, 5, 11, 12, 13, 14, 15, 16, 17, 18, 19, 20, 21, 22, 23, 24, 25, 26, 27, 28, 29, 30, 31, 32, 33, 34, 35] (by decide +kernel) (by decide +kernel)) (goodIn_sub (fun _ h => List.mem_cons_of_mem _ (List.mem_append_right _ h)) (by decide +kernel))
set_option maxRecDepth 20000 in
theorem gL_eventLength_X4_eventLength : GoodIn wsL_eventLength (wsV RL 60 RX4 yX4_eventLength wsX4_eventLength) := goodIn_app (goodIn_of _ (by decide +kernel)) ggL_eventLength_X4_eventLength
set_option maxRecDepth 20000 in
theorem ggL_ticketOf_X4_ticketOf : GoodIn wsL_ticketOf wsX4_ticketOf := goodIn_ca (goodIn_r _ [6, 7, 8, 9, 5, 10, 11, 12, 13, 14, 15, 16, 17, 18, 19, 20, 21, 22, 23, 24, 25, 26, 27] (by decide +kernel) (by decide +kernel)) (goodIn_sub (fun _ h => List.mem_cons_of_mem _ (List.mem_append_right _ h)) (by decide +kernel))
set_option maxRecDepth 20000 in
theorem gL_ticketOf_X4_ticketOf : GoodIn wsL_ticketOf (wsV RL 63 RX4 yX4_ticketOf wsX4_ticketOf) := goodIn_app (goodIn_of _ (by decide +kernel)) ggL_ticketOf_X4_ticketOf
set_option maxRecDepth 20000 in
theorem ggL_isPlausible_X4_isPlausible : GoodIn wsL_isPlausible wsX4_isPlausible := goodIn_ca (goodIn_r _ [6, 7, 8, 5, 9, 10, 11, 12, 13, 14, 15, 16, 17, 18, 19, 20, 21, 22, 23, 24, 25, 26, 27, 28, 29, 30, 31, 32, 33, 34, 35, 36, 37, 38, 39, 40, 41, 42, 43, 44, 45, 46, 47, 48, 49, 50, 51, 52, 53, 54, 55, 56, 57, 58, 59, 60] (by decide +kernel) (by decide +kernel)) (goodIn_sub (fun _ h => List.mem_cons_of_mem _ (List.mem_append_right _ h)) (by decide +kernel))
set_option maxRecDepth 20000 in
theorem gL_isPlausible_X4_isPlausible : GoodIn wsL_isPlausible (wsV RL 66 RX4 yX4_isPlausible wsX4_isPlausible) := goodIn_app (goodIn_of _ (by decide +kernel)) ggL_isPlausible_X4_isPlausible
set_option maxRecDepth 20000 in
theorem ggL_cause_X4_cause : GoodIn wsL_cause wsX4_cause := goodIn_ca (goodIn_r _ [6, 7, 8, 9, 5, 10, 11, 12, 13, 14, 15, 16, 17, 18, 19, 20, 21, 22, 23, 24, 25, 26, 27, 28, 29, 30, 31, 32, 33, 34, 35, 36, 37, 38, 39, 40, 41, 42, 43, 44, 45, 46, 47, 48, 49, 50, 51, 52, 53, 54, 55, 56, 57, 58, 59, 60, 61, 62, 63, 64, 65, 66, 67, 68, 69, 70, 71, 72, 73, 74, 75, 76, 77, 78, 79, 80, 81, 82, 83, 84, 85, 86, 87] (by decide +kernel) (by decide +kernel)) (goodIn_sub (fun _ h => List.mem_cons_of_mem _ (List.mem_append_right _ h)) (by decide +kernel))
set_option maxRecDepth 20000 in
theorem gL_cause_X4_cause : GoodIn wsL_cause (wsV RL 70 RX4 yX4_cause wsX4_cause) := goodIn_app (goodIn_of _ (by decide +kernel)) ggL_cause_X4_cause
set_option maxRecDepth 20000 in
theorem ggL_causeByTrying_X4_causeByTrying : GoodIn wsL_causeByTrying wsX4_causeByTrying := goodIn_ca (goodIn_r _ [6, 7, 8, 9, 5, 10, 11, 12, 13, 14, 15, 16, 17, 18, 19, 20, 21, 22, 23, 24, 25, 26, 27, 28, 29, 30, 31, 32, 33, 34, 35, 36, 37, 38, 39, 40, 41, 42, 43, 44, 45, 46, 47, 48, 49, 50, 51, 52, 53, 54, 55, 56, 57, 58, 59, 60, 61, 62, 63, 64, 65, 66, 67, 68, 69, 70, 71, 72, 73, 74, 75, 76, 77, 78, 79, 80, 81, 82, 83] (by decide +kernel) (by decide +kernel)) (goodIn_sub (fun _ h => List.mem_cons_of_mem _ (List.mem_append_right _ h)) (by decide +kernel))
set_option maxRecDepth 20000 in
theorem gL_causeByTrying_X4_causeByTrying : GoodIn wsL_causeByTrying (wsV RL 73 RX4 yX4_causeByTrying wsX4_causeByTrying) := goodIn_app (goodIn_of _ (by decide +kernel)) ggL_causeByTrying_X4_causeByTrying
set_option maxRecDepth 20000 in
theorem ggL_greedyCause_X4_greedyCause : GoodIn wsL_greedyCause wsX4_greedyCause := goodIn_ca (goodIn_r _ [6, 7, 8, 9, 10, 11, 5, 12, 13, 14, 15, 16, 17, 18, 19, 20, 21, 22, 23, 24, 25, 26, 27, 28, 29, 30, 31, 32, 33, 34, 35, 36, 37, 38, 39, 40, 41, 42, 43, 44, 45, 46, 47, 48, 49, 50, 51, 52, 53, 54, 55, 56, 57, 58, 59, 60, 61, 62, 63, 64, 65, 66, 67, 68, 69, 70, 71, 72] (by decide +kernel) (by decide +kernel)) (goodIn_sub (fun _ h => List.mem_cons_of_mem _ (List.mem_append_right _ h)) (by decide +kernel))
set_option maxRecDepth 20000 in
theorem gL_greedyCause_X4_greedyCause : GoodIn wsL_greedyCause (wsV RL 76 RX4 yX4_greedyCause wsX4_greedyCause) := goodIn_app (goodIn_of _ (by decide +kernel)) ggL_greedyCause_X4_greedyCause
set_option maxRecDepth 20000 in
theorem ggL_causeOf_X4_causeOf : GoodIn wsL_causeOf wsX4_causeOf := goodIn_ca (goodIn_r _ [6, 7, 8, 9, 10, 5, 11, 12, 13, 14, 15, 16, 17, 18, 19, 20, 21, 22, 23, 24, 25, 26, 27, 28, 29, 30, 31, 32, 33, 34, 35, 36, 37, 38, 39, 40, 41, 42, 43, 44, 45, 46, 47, 48, 49, 50, 51, 52, 53, 54, 55, 56, 57, 58, 59, 60, 61, 62, 63, 64, 65, 66, 67, 68, 69, 70, 71, 72, 73, 74, 75, 76, 77, 78, 79, 80, 81, 82, 83, 84, 85, 86, 87, 88] (by decide +kernel) (by decide +kernel)) (goodIn_sub (fun _ h => List.mem_cons_of_mem _ (List.mem_append_right _ h)) (by decide +kernel))
set_option maxRecDepth 20000 in
theorem gL_causeOf_X4_causeOf : GoodIn wsL_causeOf (wsV RL 79 RX4 yX4_causeOf wsX4_causeOf) := goodIn_app (goodIn_of _ (by decide +kernel)) ggL_causeOf_X4_causeOf
set_option maxRecDepth 20000 in
theorem ggL_law_X4_init : GoodIn wsL_law wsX4_init := goodIn_r _ [9, 10, 11, 12, 13, 14, 15, 16, 17, 18, 19, 20, 21, 22, 23, 24, 25, 26, 27, 28, 29, 30, 31, 32, 33, 34, 35, 36, 37, 38, 39, 40, 41, 42, 43, 44, 45, 46, 47, 48, 49, 50, 51, 697, 698, 699, 700, 676, 677, 678, 679, 680, 701, 702, 703, 704, 705, 706, 707, 708, 709, 710] (by decide +kernel) (by decide +kernel)
set_option maxRecDepth 20000 in
theorem gL_law_X4_init : GoodIn wsL_law (wsX4_init) := ggL_law_X4_init
set_option maxRecDepth 20000 in
theorem ggL_law_X5_init : GoodIn wsL_law wsX5_init := goodIn_r _ [54, 55, 11, 12, 30, 56, 57, 58, 59, 60, 61, 62, 63, 64, 65, 66, 681, 682, 683, 684, 685, 686, 687, 688, 689, 690, 691, 692, 693, 694, 695, 696] (by decide +kernel) (by decide +kernel)
set_option maxRecDepth 20000 in
theorem gL_law_X5_init : GoodIn wsL_law (wsX5_init) := ggL_law_X5_init
set_option maxRecDepth 20000 in
theorem ggL_law_L_need : GoodIn wsL_law wsL_need := goodIn_ca (goodIn_ca (goodIn_r _ [70, 71, 72, 73, 74, 75, 2, 76, 77, 78, 16, 79, 80, 81, 82, 83, 84, 85, 86, 15, 87, 33, 88, 89, 90, 91, 92, 93, 94, 95, 96, 97, 31, 32, 98, 99, 100, 101, 34, 102, 103, 104, 105, 106, 107, 676, 677, 678, 679, 680, 697, 698, 699, 700] (by decide +kernel) (by decide +kernel)) (goodIn_sub (fun _ h => List.mem_append_left _ (List.mem_append_left _ (List.mem_append_right _ h))) (by decide +kernel))) (goodIn_sub (fun _ h => List.mem_append_left _ (List.mem_append_right _ h)) (by decide +kernel))
set_option maxRecDepth 20000 in
theorem gL_law_L_need : GoodIn wsL_law (va_wsS RL 86 yL_need wsL_need) := goodIn_app (goodIn_of _ (by decide +kernel)) ggL_law_L_need
set_option maxRecDepth 20000 in
theorem ggL_law_X5_need : GoodIn wsL_law wsX5_need := goodIn_r _ [111, 57, 56, 112, 113, 5, 114, 115, 116, 117, 118, 119, 120, 121, 122, 123, 124, 125, 126, 681, 682, 683, 684, 685, 686, 687, 688, 689, 690, 691, 692, 693, 694, 695, 696] (by decide +kernel) (by decide +kernel)
set_option maxRecDepth 20000 in
theorem gL_law_X5_need : GoodIn wsL_law (wsV RL 91 RX5 yX5_need wsX5_need) := goodIn_app (goodIn_of _ (by decide +kernel)) ggL_law_X5_need
set_option maxRecDepth 20000 in
theorem ggL_law_X5_thrown : GoodIn wsL_law wsX5_thrown := goodIn_r _ [130, 122, 681, 682, 683, 684, 685, 686, 687, 688, 689, 690, 691, 692, 693, 694, 695, 696] (by decide +kernel) (by decide +kernel)
set_option maxRecDepth 20000 in
theorem gL_law_X5_thrown : GoodIn wsL_law (wsV RL 92 RX5 yX5_thrown wsX5_thrown) := goodIn_app (goodIn_of _ (by decide +kernel)) ggL_law_X5_thrown
set_option maxRecDepth 20000 in
theorem ggL_law_L_release : GoodIn wsL_law wsL_release := goodIn_ca (goodIn_r _ [133, 71, 134, 135, 136, 2, 137, 16, 79, 80, 81, 82, 83, 138, 139, 140, 15, 141, 31, 32, 89, 90, 91, 92, 93, 98, 99, 100, 101, 33, 34, 102, 103, 104, 105, 106, 107, 676, 677, 678, 679, 680, 697, 698, 699, 700] (by decide +kernel) (by decide +kernel)) (goodIn_sub (fun _ h => List.mem_append_left _ (List.mem_append_right _ h)) (by decide +kernel))
set_option maxRecDepth 20000 in
theorem gL_law_L_release : GoodIn wsL_law (va_wsS RL 96 yL_release wsL_release) := goodIn_app (goodIn_of _ (by decide +kernel)) ggL_law_L_release
set_option maxRecDepth 20000 in
theorem ggL_law_X5_release : GoodIn wsL_law wsX5_release := goodIn_r _ [145, 56, 112, 113, 5, 114, 118, 119, 120, 121, 122, 115, 116, 117, 123, 124, 125, 126, 57, 681, 682, 683, 684, 685, 686, 687, 688, 689, 690, 691, 692, 693, 694, 695, 696] (by decide +kernel) (by decide +kernel)
set_option maxRecDepth 20000 in
theorem gL_law_X5_release : GoodIn wsL_law (wsV RL 98 RX5 yX5_release wsX5_release) := goodIn_app (goodIn_of _ (by decide +kernel)) ggL_law_X5_release
set_option maxRecDepth 20000 in
theorem ggL_law_L_needs : GoodIn wsL_law wsL_needs := goodIn_ca (goodIn_r _ [148, 71, 149, 150, 151, 2, 152, 16, 79, 80, 81, 82, 83, 153, 154, 155, 15, 156, 31, 88, 89, 90, 91, 92, 93, 676, 677, 678, 679, 680, 697, 698, 699, 700] (by decide +kernel) (by decide +kernel)) (goodIn_sub (fun _ h => List.mem_append_left _ (List.mem_append_right _ h)) (by decide +kernel))
set_option maxRecDepth 20000 in
theorem gL_law_L_needs : GoodIn wsL_law (va_wsS RL 99 yL_needs wsL_needs) := goodIn_app (goodIn_of _ (by decide +kernel)) ggL_law_L_needs
set_option maxRecDepth 20000 in
theorem ggL_law_X5_needs : GoodIn wsL_law wsX5_needs := goodIn_r _ [160, 56, 112, 113, 5, 114, 118, 119, 120, 121, 122, 115, 116, 117, 681, 682, 683, 684, 685, 686, 687, 688, 689, 690, 691, 692, 693, 694, 695, 696] (by decide +kernel) (by decide +kernel)
set_option maxRecDepth 20000 in
theorem gL_law_X5_needs : GoodIn wsL_law (wsV RL 101 RX5 yX5_needs wsX5_needs) := goodIn_app (goodIn_of _ (by decide +kernel)) ggL_law_X5_needs
set_option maxRecDepth 20000 in
theorem ggL_law_L_dependsOn : GoodIn wsL_law wsL_dependsOn := goodIn_ca (goodIn_r _ [163, 71, 164, 165, 166, 2, 167, 16, 79, 80, 81, 82, 83, 84, 85, 86, 15, 87, 33, 88, 89, 90, 91, 92, 93, 676, 677, 678, 679, 680, 697, 698, 699, 700] (by decide +kernel) (by decide +kernel)) (goodIn_sub (fun _ h => List.mem_append_left _ (List.mem_append_right _ h)) (by decide +kernel))
set_option maxRecDepth 20000 in
theorem gL_law_L_dependsOn : GoodIn wsL_law (va_wsS RL 102 yL_dependsOn wsL_dependsOn) := goodIn_app (goodIn_of _ (by decide +kernel)) ggL_law_L_dependsOn
set_option maxRecDepth 20000 in
theorem ggL_law_X5_dependsOn : GoodIn wsL_law wsX5_dependsOn := goodIn_r _ [171, 57, 112, 113, 5, 114, 118, 119, 120, 121, 122, 115, 116, 117, 681, 682, 683, 684, 685, 686, 687, 688, 689, 690, 691, 692, 693, 694, 695, 696] (by decide +kernel) (by decide +kernel)
set_option maxRecDepth 20000 in
theorem gL_law_X5_dependsOn : GoodIn wsL_law (wsV RL 104 RX5 yX5_dependsOn wsX5_dependsOn) := goodIn_app (goodIn_of _ (by decide +kernel)) ggL_law_X5_dependsOn
set_option maxRecDepth 20000 in
theorem ggL_law_L_height : GoodIn wsL_law wsL_height := goodIn_ca (goodIn_r _ [174, 71, 175, 176, 177, 2, 178, 16, 79, 80, 81, 82, 83, 179, 180, 181, 15, 182, 31, 92, 93, 105, 106, 107, 89, 90, 91, 676, 677, 678, 679, 680, 697, 698, 699, 700] (by decide +kernel) (by decide +kernel)) (goodIn_sub (fun _ h => List.mem_append_left _ (List.mem_append_right _ h)) (by decide +kernel))
set_option maxRecDepth 20000 in
theorem gL_law_L_height : GoodIn wsL_law (va_wsS RL 105 yL_height wsL_height) := goodIn_app (goodIn_of _ (by decide +kernel)) ggL_law_L_height
set_option maxRecDepth 20000 in
theorem ggL_law_X5_height : GoodIn wsL_law wsX5_height := goodIn_r _ [186, 56, 112, 113, 5, 114, 118, 119, 120, 121, 122, 115, 116, 117, 681, 682, 683, 684, 685, 686, 687, 688, 689, 690, 691, 692, 693, 694, 695, 696] (by decide +kernel) (by decide +kernel)
set_option maxRecDepth 20000 in
theorem gL_law_X5_height : GoodIn wsL_law (wsV RL 108 RX5 yX5_height wsX5_height) := goodIn_app (goodIn_of _ (by decide +kernel)) ggL_law_X5_height
set_option maxRecDepth 20000 in
theorem ggL_law_L_tick : GoodIn wsL_law wsL_tick := goodIn_ca (goodIn_r _ [189, 72, 190, 191, 192, 2, 193, 26, 194, 195, 196, 77, 78, 676, 677, 678, 679, 680] (by decide +kernel) (by decide +kernel)) (goodIn_sub (fun _ h => List.mem_append_left _ (List.mem_append_left _ (List.mem_append_right _ h))) (by decide +kernel))
set_option maxRecDepth 20000 in
theorem gL_law_L_tick : GoodIn wsL_law (va_wsS RL 109 yL_tick wsL_tick) := goodIn_app (goodIn_of _ (by decide +kernel)) ggL_law_L_tick
set_option maxRecDepth 20000 in
theorem ggL_law_X5_tick : GoodIn wsL_law wsX5_tick := goodIn_r _ [200, 201, 118, 119, 120, 5, 121, 122, 681, 682, 683, 684, 685, 686, 687, 688, 689, 690, 691, 692, 693, 694, 695, 696] (by decide +kernel) (by decide +kernel)
set_option maxRecDepth 20000 in
theorem gL_law_X5_tick : GoodIn wsL_law (wsV RL 111 RX5 yX5_tick wsX5_tick) := goodIn_app (goodIn_of _ (by decide +kernel)) ggL_law_X5_tick
set_option maxRecDepth 20000 in
theorem ggL_law_X4_now : GoodIn wsL_law wsX4_now := goodIn_r _ [205, 26, 676, 677, 678, 679, 680] (by decide +kernel) (by decide +kernel)
set_option maxRecDepth 20000 in
theorem gL_law_X4_now : GoodIn wsL_law (wsV RL 112 RX4 yX4_now wsX4_now) := goodIn_app (goodIn_of _ (by decide +kernel)) ggL_law_X4_now
set_option maxRecDepth 20000 in
theorem ggL_law_X5_now : GoodIn wsL_law wsX5_now := goodIn_r _ [209, 122, 201, 681, 682, 683, 684, 685, 686, 687, 688, 689, 690, 691, 692, 693, 694, 695, 696] (by decide +kernel) (by decide +kernel)
set_option maxRecDepth 20000 in
theorem gL_law_X5_now : GoodIn wsL_law (wsV RL 115 RX5 yX5_now wsX5_now) := goodIn_app (goodIn_of _ (by decide +kernel)) ggL_law_X5_now
set_option maxRecDepth 20000 in
theorem ggL_law_L_raise : GoodIn wsL_law wsL_raise := goodIn_ca (goodIn_ca (goodIn_r _ [212, 71, 213, 214, 215, 216, 2, 217, 25, 20, 26, 16, 24, 79, 80, 81, 82, 83, 88, 89, 90, 91, 92, 93, 218, 219, 220, 221, 222, 223, 224, 225, 226, 19, 227, 43, 228, 229, 230, 231, 42, 232, 233, 234, 235, 38, 39, 40, 41, 84, 85, 86, 15, 87, 33, 236, 237, 238, 239, 34, 240, 241, 242, 23, 243, 48, 49, 244, 245, 246, 247, 51, 50, 248, 249, 250, 251, 252, 253, 254, 255, 256, 257, 258, 259, 676, 677, 678, 679, 680, 701, 702, 703, 704, 705, 706, 697, 698, 699, 700, 707, 708, 709, 710] (by decide +kernel) (by decide +kernel)) (goodIn_sub (fun _ h => List.mem_append_left _ (List.mem_append_right _ h)) (by decide +kernel))) (goodIn_sub (fun _ h => List.mem_append_right _ h) (by decide +kernel))
set_option maxRecDepth 20000 in
theorem gL_law_L_raise : GoodIn wsL_law (va_wsS RL 116 yL_raise wsL_raise) := goodIn_app (goodIn_of _ (by decide +kernel)) ggL_law_L_raise
set_option maxRecDepth 20000 in
theorem ggL_law_X5_raise : GoodIn wsL_law wsX5_raise := goodIn_r _ [263, 264, 265, 59, 266, 61, 60, 62, 58, 201, 112, 113, 5, 114, 115, 116, 117, 118, 119, 120, 121, 122, 267, 268, 269, 270, 57, 271, 272, 273, 274, 63, 64, 65, 66, 681, 682, 683, 684, 685, 686, 687, 688, 689, 690, 691, 692, 693, 694, 695, 696] (by decide +kernel) (by decide +kernel)
set_option maxRecDepth 20000 in
theorem gL_law_X5_raise : GoodIn wsL_law (wsV RL 118 RX5 yX5_raise wsX5_raise) := goodIn_app (goodIn_of _ (by decide +kernel)) ggL_law_X5_raise
set_option maxRecDepth 20000 in
theorem ggL_law_L_clear : GoodIn wsL_law wsL_clear := goodIn_ca (goodIn_ca (goodIn_r _ [277, 71, 213, 278, 279, 280, 2, 281, 25, 20, 26, 24, 79, 80, 81, 82, 83, 88, 89, 90, 91, 92, 93, 218, 219, 220, 221, 222, 223, 224, 225, 226, 19, 227, 43, 282, 283, 284, 285, 42, 232, 233, 234, 235, 38, 39, 40, 41, 286, 287, 288, 23, 289, 48, 49, 676, 677, 678, 679, 680, 701, 702, 703, 704, 705, 706, 707, 708, 709, 710] (by decide +kernel) (by decide +kernel)) (goodIn_sub (fun _ h => List.mem_append_left _ (List.mem_append_right _ h)) (by decide +kernel))) (goodIn_sub (fun _ h => List.mem_append_right _ h) (by decide +kernel))
set_option maxRecDepth 20000 in
theorem gL_law_L_clear : GoodIn wsL_law (va_wsS RL 119 yL_clear wsL_clear) := goodIn_app (goodIn_of _ (by decide +kernel)) ggL_law_L_clear
set_option maxRecDepth 20000 in
theorem ggL_law_X5_clear : GoodIn wsL_law wsX5_clear := goodIn_r _ [293, 264, 265, 59, 60, 61, 201, 58, 112, 113, 5, 114, 115, 116, 117, 118, 119, 120, 121, 122, 271, 272, 273, 274, 63, 64, 65, 66, 294, 295, 296, 681, 682, 683, 684, 685, 686, 687, 688, 689, 690, 691, 692, 693, 694, 695, 696] (by decide +kernel) (by decide +kernel)
set_option maxRecDepth 20000 in
theorem gL_law_X5_clear : GoodIn wsL_law (wsV RL 121 RX5 yX5_clear wsX5_clear) := goodIn_app (goodIn_of _ (by decide +kernel)) ggL_law_X5_clear
set_option maxRecDepth 20000 in
theorem ggL_law_L_state : GoodIn wsL_law wsL_state := goodIn_ca (goodIn_r _ [299, 71, 300, 301, 302, 2, 303, 79, 80, 81, 82, 83, 304, 305, 306, 307, 25, 20, 26, 16, 88, 89, 90, 91, 92, 93, 308, 309, 310, 19, 311, 43, 38, 39, 40, 84, 85, 86, 15, 87, 33, 676, 677, 678, 679, 680, 701, 702, 703, 704, 705, 706, 697, 698, 699, 700] (by decide +kernel) (by decide +kernel)) (goodIn_sub (fun _ h => List.mem_append_left _ (List.mem_append_right _ h)) (by decide +kernel))
set_option maxRecDepth 20000 in
theorem gL_law_L_state : GoodIn wsL_law (va_wsS RL 122 yL_state wsL_state) := goodIn_app (goodIn_of _ (by decide +kernel)) ggL_law_L_state
set_option maxRecDepth 20000 in
theorem ggL_law_X5_state : GoodIn wsL_law wsX5_state := goodIn_r _ [315, 112, 113, 5, 114, 118, 119, 120, 121, 122, 316, 317, 318, 319, 264, 57, 115, 116, 117, 320, 321, 322, 323, 265, 63, 64, 65, 201, 681, 682, 683, 684, 685, 686, 687, 688, 689, 690, 691, 692, 693, 694, 695, 696] (by decide +kernel) (by decide +kernel)
set_option maxRecDepth 20000 in
theorem gL_law_X5_state : GoodIn wsL_law (wsV RL 124 RX5 yX5_state wsX5_state) := goodIn_app (goodIn_of _ (by decide +kernel)) ggL_law_X5_state
set_option maxRecDepth 20000 in
theorem ggL_law_L_nodesThatAre : GoodIn wsL_law wsL_nodesThatAre := goodIn_ca (goodIn_r _ [326, 72, 327, 328, 329, 2, 330, 77, 78, 304, 305, 306, 307, 25, 20, 26, 16, 88, 89, 90, 91, 92, 93, 308, 309, 310, 19, 311, 43, 38, 39, 40, 84, 85, 86, 15, 87, 33, 676, 677, 678, 679, 680, 701, 702, 703, 704, 705, 706, 697, 698, 699, 700] (by decide +kernel) (by decide +kernel)) (goodIn_sub (fun _ h => List.mem_append_left _ (List.mem_append_left _ (List.mem_append_right _ h))) (by decide +kernel))
set_option maxRecDepth 20000 in
theorem gL_law_L_nodesThatAre : GoodIn wsL_law (va_wsS RL 125 yL_nodesThatAre wsL_nodesThatAre) := goodIn_app (goodIn_of _ (by decide +kernel)) ggL_law_L_nodesThatAre
set_option maxRecDepth 20000 in
theorem ggL_law_X5_nodesThatAre : GoodIn wsL_law wsX5_nodesThatAre := goodIn_r _ [334, 118, 119, 120, 5, 121, 122, 316, 317, 318, 319, 264, 57, 115, 116, 117, 320, 321, 322, 323, 265, 63, 64, 65, 201, 681, 682, 683, 684, 685, 686, 687, 688, 689, 690, 691, 692, 693, 694, 695, 696] (by decide +kernel) (by decide +kernel)
set_option maxRecDepth 20000 in
theorem gL_law_X5_nodesThatAre : GoodIn wsL_law (wsV RL 127 RX5 yX5_nodesThatAre wsX5_nodesThatAre) := goodIn_app (goodIn_of _ (by decide +kernel)) ggL_law_X5_nodesThatAre
set_option maxRecDepth 20000 in
theorem ggL_law_L_raises : GoodIn wsL_law wsL_raises := goodIn_ca (goodIn_ca (goodIn_r _ [337, 71, 72, 338, 339, 340, 2, 341, 20, 26, 79, 80, 81, 82, 83, 194, 195, 196, 77, 78, 308, 309, 310, 19, 311, 43, 38, 39, 40, 676, 677, 678, 679, 680, 701, 702, 703, 704, 705, 706] (by decide +kernel) (by decide +kernel)) (goodIn_sub (fun _ h => List.mem_append_left _ (List.mem_append_right _ h)) (by decide +kernel))) (goodIn_sub (fun _ h => List.mem_append_left _ (List.mem_append_left _ (List.mem_append_right _ h))) (by decide +kernel))
set_option maxRecDepth 20000 in
theorem gL_law_L_raises : GoodIn wsL_law (va_wsS RL 128 yL_raises wsL_raises) := goodIn_app (goodIn_of _ (by decide +kernel)) ggL_law_L_raises
set_option maxRecDepth 20000 in
theorem ggL_law_X5_raises : GoodIn wsL_law wsX5_raises := goodIn_r _ [345, 112, 113, 5, 114, 118, 119, 120, 121, 122, 320, 321, 322, 323, 265, 63, 64, 65, 201, 681, 682, 683, 684, 685, 686, 687, 688, 689, 690, 691, 692, 693, 694, 695, 696] (by decide +kernel) (by decide +kernel)
set_option maxRecDepth 20000 in
theorem gL_law_X5_raises : GoodIn wsL_law (wsV RL 130 RX5 yX5_raises wsX5_raises) := goodIn_app (goodIn_of _ (by decide +kernel)) ggL_law_X5_raises
set_option maxRecDepth 20000 in
theorem ggL_law_X4_events : GoodIn wsL_law wsX4_events := goodIn_r _ [349, 20, 350, 351, 352, 19, 353, 43, 676, 677, 678, 679, 680, 701, 702, 703, 704, 705, 706] (by decide +kernel) (by decide +kernel)
set_option maxRecDepth 20000 in
theorem gL_law_X4_events : GoodIn wsL_law (wsV RL 131 RX4 yX4_events wsX4_events) := goodIn_app (goodIn_of _ (by decide +kernel)) ggL_law_X4_events
set_option maxRecDepth 20000 in
theorem ggL_law_X5_events : GoodIn wsL_law wsX5_events := goodIn_r _ [357, 122, 265, 681, 682, 683, 684, 685, 686, 687, 688, 689, 690, 691, 692, 693, 694, 695, 696] (by decide +kernel) (by decide +kernel)
set_option maxRecDepth 20000 in
theorem gL_law_X5_events : GoodIn wsL_law (wsV RL 134 RX5 yX5_events wsX5_events) := goodIn_app (goodIn_of _ (by decide +kernel)) ggL_law_X5_events
set_option maxRecDepth 20000 in
theorem ggL_law_L_eventKind : GoodIn wsL_law wsL_eventKind := goodIn_ca (goodIn_r _ [360, 71, 361, 362, 363, 2, 364, 20, 365, 366, 367, 368, 82, 83, 350, 351, 352, 19, 353, 43, 369, 370, 371, 372, 38, 676, 677, 678, 679, 680, 701, 702, 703, 704, 705, 706] (by decide +kernel) (by decide +kernel)) (goodIn_sub (fun _ h => List.mem_append_left _ (List.mem_append_right _ h)) (by decide +kernel))
set_option maxRecDepth 20000 in
theorem gL_law_L_eventKind : GoodIn wsL_law (va_wsS RL 135 yL_eventKind wsL_eventKind) := goodIn_app (goodIn_of _ (by decide +kernel)) ggL_law_L_eventKind
set_option maxRecDepth 20000 in
theorem ggL_law_X5_eventKind : GoodIn wsL_law wsX5_eventKind := goodIn_r _ [376, 63, 377, 378, 379, 5, 380, 265, 118, 119, 120, 121, 122, 681, 682, 683, 684, 685, 686, 687, 688, 689, 690, 691, 692, 693, 694, 695, 696] (by decide +kernel) (by decide +kernel)
set_option maxRecDepth 20000 in
theorem gL_law_X5_eventKind : GoodIn wsL_law (wsV RL 137 RX5 yX5_eventKind wsX5_eventKind) := goodIn_app (goodIn_of _ (by decide +kernel)) ggL_law_X5_eventKind
set_option maxRecDepth 20000 in
theorem ggL_law_L_eventNode : GoodIn wsL_law wsL_eventNode := goodIn_ca (goodIn_r _ [383, 71, 384, 385, 386, 2, 387, 20, 365, 366, 367, 368, 82, 83, 350, 351, 352, 19, 353, 43, 388, 389, 390, 391, 39, 676, 677, 678, 679, 680, 701, 702, 703, 704, 705, 706] (by decide +kernel) (by decide +kernel)) (goodIn_sub (fun _ h => List.mem_append_left _ (List.mem_append_right _ h)) (by decide +kernel))
set_option maxRecDepth 20000 in
theorem gL_law_L_eventNode : GoodIn wsL_law (va_wsS RL 138 yL_eventNode wsL_eventNode) := goodIn_app (goodIn_of _ (by decide +kernel)) ggL_law_L_eventNode
set_option maxRecDepth 20000 in
theorem ggL_law_X5_eventNode : GoodIn wsL_law wsX5_eventNode := goodIn_r _ [395, 64, 377, 378, 379, 5, 380, 265, 118, 119, 120, 121, 122, 681, 682, 683, 684, 685, 686, 687, 688, 689, 690, 691, 692, 693, 694, 695, 696] (by decide +kernel) (by decide +kernel)
set_option maxRecDepth 20000 in
theorem gL_law_X5_eventNode : GoodIn wsL_law (wsV RL 140 RX5 yX5_eventNode wsX5_eventNode) := goodIn_app (goodIn_of _ (by decide +kernel)) ggL_law_X5_eventNode
set_option maxRecDepth 20000 in
theorem ggL_law_L_eventTime : GoodIn wsL_law wsL_eventTime := goodIn_ca (goodIn_r _ [398, 71, 399, 400, 401, 2, 402, 20, 365, 366, 367, 368, 82, 83, 350, 351, 352, 19, 353, 43, 403, 404, 405, 406, 40, 676, 677, 678, 679, 680, 701, 702, 703, 704, 705, 706] (by decide +kernel) (by decide +kernel)) (goodIn_sub (fun _ h => List.mem_append_left _ (List.mem_append_right _ h)) (by decide +kernel))
set_option maxRecDepth 20000 in
theorem gL_law_L_eventTime : GoodIn wsL_law (va_wsS RL 141 yL_eventTime wsL_eventTime) := goodIn_app (goodIn_of _ (by decide +kernel)) ggL_law_L_eventTime
set_option maxRecDepth 20000 in
theorem ggL_law_X5_eventTime : GoodIn wsL_law wsX5_eventTime := goodIn_r _ [410, 65, 377, 378, 379, 5, 380, 265, 118, 119, 120, 121, 122, 681, 682, 683, 684, 685, 686, 687, 688, 689, 690, 691, 692, 693, 694, 695, 696] (by decide +kernel) (by decide +kernel)
set_option maxRecDepth 20000 in
theorem gL_law_X5_eventTime : GoodIn wsL_law (wsV RL 143 RX5 yX5_eventTime wsX5_eventTime) := goodIn_app (goodIn_of _ (by decide +kernel)) ggL_law_X5_eventTime
set_option maxRecDepth 20000 in
theorem ggL_law_L_eventLength : GoodIn wsL_law wsL_eventLength := goodIn_ca (goodIn_r _ [413, 71, 414, 415, 416, 2, 417, 20, 365, 366, 367, 368, 82, 83, 350, 351, 352, 19, 353, 43, 418, 419, 420, 421, 41, 676, 677, 678, 679, 680, 701, 702, 703, 704, 705, 706] (by decide +kernel) (by decide +kernel)) (goodIn_sub (fun _ h => List.mem_append_left _ (List.mem_append_right _ h)) (by decide +kernel))
set_option maxRecDepth 20000 in
theorem gL_law_L_eventLength : GoodIn wsL_law (va_wsS RL 144 yL_eventLength wsL_eventLength) := goodIn_app (goodIn_of _ (by decide +kernel)) ggL_law_L_eventLength
set_option maxRecDepth 20000 in
theorem ggL_law_X5_eventLength : GoodIn wsL_law wsX5_eventLength := goodIn_r _ [425, 66, 377, 378, 379, 5, 380, 265, 118, 119, 120, 121, 122, 681, 682, 683, 684, 685, 686, 687, 688, 689, 690, 691, 692, 693, 694, 695, 696] (by decide +kernel) (by decide +kernel)
set_option maxRecDepth 20000 in
theorem gL_law_X5_eventLength : GoodIn wsL_law (wsV RL 146 RX5 yX5_eventLength wsX5_eventLength) := goodIn_app (goodIn_of _ (by decide +kernel)) ggL_law_X5_eventLength
set_option maxRecDepth 20000 in
theorem ggL_law_X4_openTickets : GoodIn wsL_law wsX4_openTickets := goodIn_r _ [429, 24, 430, 431, 432, 23, 433, 51, 434, 435, 436, 437, 50, 49, 438, 439, 440, 441, 676, 677, 678, 679, 680, 707, 708, 709, 710] (by decide +kernel) (by decide +kernel)
set_option maxRecDepth 20000 in
theorem gL_law_X4_openTickets : GoodIn wsL_law (wsV RL 147 RX4 yX4_openTickets wsX4_openTickets) := goodIn_app (goodIn_of _ (by decide +kernel)) ggL_law_X4_openTickets
set_option maxRecDepth 20000 in
theorem ggL_law_X5_openTickets : GoodIn wsL_law wsX5_openTickets := goodIn_r _ [445, 122, 266, 61, 681, 682, 683, 684, 685, 686, 687, 688, 689, 690, 691, 692, 693, 694, 695, 696] (by decide +kernel) (by decide +kernel)
set_option maxRecDepth 20000 in
theorem gL_law_X5_openTickets : GoodIn wsL_law (wsV RL 150 RX5 yX5_openTickets wsX5_openTickets) := goodIn_app (goodIn_of _ (by decide +kernel)) ggL_law_X5_openTickets
set_option maxRecDepth 20000 in
theorem ggL_law_L_ticketOf : GoodIn wsL_law wsL_ticketOf := goodIn_ca (goodIn_r _ [448, 71, 449, 450, 451, 2, 452, 24, 79, 80, 81, 82, 83, 453, 454, 455, 23, 456, 48, 676, 677, 678, 679, 680, 707, 708, 709, 710] (by decide +kernel) (by decide +kernel)) (goodIn_sub (fun _ h => List.mem_append_left _ (List.mem_append_right _ h)) (by decide +kernel))
set_option maxRecDepth 20000 in
theorem gL_law_L_ticketOf : GoodIn wsL_law (va_wsS RL 151 yL_ticketOf wsL_ticketOf) := goodIn_app (goodIn_of _ (by decide +kernel)) ggL_law_L_ticketOf
set_option maxRecDepth 20000 in
theorem ggL_law_X5_ticketOf : GoodIn wsL_law wsX5_ticketOf := goodIn_r _ [460, 264, 59, 112, 113, 5, 114, 118, 119, 120, 121, 122, 115, 116, 117, 681, 682, 683, 684, 685, 686, 687, 688, 689, 690, 691, 692, 693, 694, 695, 696] (by decide +kernel) (by decide +kernel)
set_option maxRecDepth 20000 in
theorem gL_law_X5_ticketOf : GoodIn wsL_law (wsV RL 153 RX5 yX5_ticketOf wsX5_ticketOf) := goodIn_app (goodIn_of _ (by decide +kernel)) ggL_law_X5_ticketOf
set_option maxRecDepth 20000 in
theorem ggL_law_X4_ticketState : GoodIn wsL_law wsX4_ticketState := goodIn_r _ [464, 24, 465, 435, 436, 23, 437, 50, 49, 438, 439, 440, 441, 51, 676, 677, 678, 679, 680, 707, 708, 709, 710] (by decide +kernel) (by decide +kernel)
set_option maxRecDepth 20000 in
theorem gL_law_X4_ticketState : GoodIn wsL_law (wsV RL 154 RX4 yX4_ticketState wsX4_ticketState) := goodIn_app (goodIn_of _ (by decide +kernel)) ggL_law_X4_ticketState
set_option maxRecDepth 20000 in
theorem ggL_law_X5_ticketState : GoodIn wsL_law wsX5_ticketState := goodIn_r _ [469, 122, 61, 470, 471, 472, 5, 473, 266, 681, 682, 683, 684, 685, 686, 687, 688, 689, 690, 691, 692, 693, 694, 695, 696] (by decide +kernel) (by decide +kernel)
set_option maxRecDepth 20000 in
theorem gL_law_X5_ticketState : GoodIn wsL_law (wsV RL 157 RX5 yX5_ticketState wsX5_ticketState) := goodIn_app (goodIn_of _ (by decide +kernel)) ggL_law_X5_ticketState
set_option maxRecDepth 20000 in
theorem ggL_law_X4_ticketSize : GoodIn wsL_law wsX4_ticketSize := goodIn_r _ [477, 24, 478, 479, 480, 23, 481, 49, 438, 439, 440, 441, 51, 676, 677, 678, 679, 680, 707, 708, 709, 710] (by decide +kernel) (by decide +kernel)
set_option maxRecDepth 20000 in
theorem gL_law_X4_ticketSize : GoodIn wsL_law (wsV RL 158 RX4 yX4_ticketSize wsX4_ticketSize) := goodIn_app (goodIn_of _ (by decide +kernel)) ggL_law_X4_ticketSize
set_option maxRecDepth 20000 in
theorem ggL_law_X5_ticketSize : GoodIn wsL_law wsX5_ticketSize := goodIn_r _ [485, 122, 60, 470, 471, 472, 5, 473, 266, 294, 295, 296, 681, 682, 683, 684, 685, 686, 687, 688, 689, 690, 691, 692, 693, 694, 695, 696] (by decide +kernel) (by decide +kernel)
set_option maxRecDepth 20000 in
theorem gL_law_X5_ticketSize : GoodIn wsL_law (wsV RL 161 RX5 yX5_ticketSize wsX5_ticketSize) := goodIn_app (goodIn_of _ (by decide +kernel)) ggL_law_X5_ticketSize
set_option maxRecDepth 20000 in
theorem ggL_law_X4_mergedInto : GoodIn wsL_law wsX4_mergedInto := goodIn_r _ [489, 24, 490, 491, 492, 23, 493, 50, 438, 439, 440, 441, 51, 676, 677, 678, 679, 680, 707, 708, 709, 710] (by decide +kernel) (by decide +kernel)
set_option maxRecDepth 20000 in
theorem gL_law_X4_mergedInto : GoodIn wsL_law (wsV RL 162 RX4 yX4_mergedInto wsX4_mergedInto) := goodIn_app (goodIn_of _ (by decide +kernel)) ggL_law_X4_mergedInto
set_option maxRecDepth 20000 in
theorem ggL_law_X5_mergedInto : GoodIn wsL_law wsX5_mergedInto := goodIn_r _ [497, 122, 61, 62, 470, 471, 472, 5, 473, 266, 681, 682, 683, 684, 685, 686, 687, 688, 689, 690, 691, 692, 693, 694, 695, 696] (by decide +kernel) (by decide +kernel)
set_option maxRecDepth 20000 in
theorem gL_law_X5_mergedInto : GoodIn wsL_law (wsV RL 165 RX5 yX5_mergedInto wsX5_mergedInto) := goodIn_app (goodIn_of _ (by decide +kernel)) ggL_law_X5_mergedInto
set_option maxRecDepth 20000 in
theorem ggL_law_L_isPlausible : GoodIn wsL_law wsL_isPlausible := goodIn_ca (goodIn_r _ [500, 71, 501, 502, 503, 2, 504, 79, 80, 81, 82, 83, 505, 506, 507, 508, 509, 510, 511, 16, 25, 512, 513, 514, 515, 11, 12, 516, 517, 518, 519, 520, 521, 522, 523, 524, 15, 525, 32, 92, 93, 526, 527, 528, 529, 88, 89, 90, 91, 711, 712, 713, 676, 677, 678, 679, 680, 697, 698, 699, 700] (by decide +kernel) (by decide +kernel)) (goodIn_sub (fun _ h => List.mem_append_left _ (List.mem_append_right _ h)) (by decide +kernel))
set_option maxRecDepth 20000 in
theorem gL_law_L_isPlausible : GoodIn wsL_law (va_wsS RL 166 yL_isPlausible wsL_isPlausible) := goodIn_app (goodIn_of _ (by decide +kernel)) ggL_law_L_isPlausible
set_option maxRecDepth 20000 in
theorem ggL_law_X5_isPlausible : GoodIn wsL_law wsX5_isPlausible := goodIn_r _ [533, 112, 113, 5, 114, 118, 119, 120, 121, 122, 534, 535, 536, 537, 56, 264, 115, 116, 117, 681, 682, 683, 684, 685, 686, 687, 688, 689, 690, 691, 692, 693, 694, 695, 696] (by decide +kernel) (by decide +kernel)
set_option maxRecDepth 20000 in
theorem gL_law_X5_isPlausible : GoodIn wsL_law (wsV RL 168 RX5 yX5_isPlausible wsX5_isPlausible) := goodIn_app (goodIn_of _ (by decide +kernel)) ggL_law_X5_isPlausible
set_option maxRecDepth 20000 in
theorem ggL_law_X4_causes : GoodIn wsL_law wsX4_causes := goodIn_r _ [541, 505, 506, 507, 2, 508, 509, 510, 511, 16, 25, 512, 513, 514, 515, 11, 12, 516, 517, 518, 519, 520, 521, 522, 523, 524, 15, 525, 32, 92, 93, 542, 543, 544, 545, 546, 547, 548, 549, 550, 88, 89, 90, 91, 551, 552, 553, 554, 555, 556, 557, 558, 559, 560, 561, 562, 563, 564, 565, 33, 566, 567, 568, 569, 34, 570, 711, 712, 713, 676, 677, 678, 679, 680, 697, 698, 699, 700] (by decide +kernel) (by decide +kernel)
set_option maxRecDepth 20000 in
theorem gL_law_X4_causes : GoodIn wsL_law (wsV RL 169 RX4 yX4_causes wsX4_causes) := goodIn_app (goodIn_of _ (by decide +kernel)) ggL_law_X4_causes
set_option maxRecDepth 20000 in
theorem ggL_law_X5_causes : GoodIn wsL_law wsX5_causes := goodIn_r _ [574, 122, 575, 576, 577, 5, 578, 264, 534, 535, 536, 537, 56, 115, 116, 117, 579, 580, 581, 582, 294, 295, 296, 583, 584, 585, 586, 57, 681, 682, 683, 684, 685, 686, 687, 688, 689, 690, 691, 692, 693, 694, 695, 696] (by decide +kernel) (by decide +kernel)
set_option maxRecDepth 20000 in
theorem gL_law_X5_causes : GoodIn wsL_law (wsV RL 172 RX5 yX5_causes wsX5_causes) := goodIn_app (goodIn_of _ (by decide +kernel)) ggL_law_X5_causes
set_option maxRecDepth 20000 in
theorem ggL_law_L_cause : GoodIn wsL_law wsL_cause := goodIn_ca (goodIn_r _ [589, 71, 590, 591, 592, 2, 593, 505, 506, 507, 508, 509, 510, 511, 16, 25, 512, 513, 514, 515, 11, 12, 516, 517, 518, 519, 520, 521, 522, 523, 524, 15, 525, 32, 92, 93, 542, 543, 544, 545, 546, 547, 548, 549, 550, 88, 89, 90, 91, 551, 552, 553, 554, 555, 556, 557, 558, 559, 560, 561, 562, 563, 564, 565, 33, 566, 567, 568, 569, 34, 594, 595, 596, 82, 83, 597, 711, 712, 713, 676, 677, 678, 679, 680, 697, 698, 699, 700] (by decide +kernel) (by decide +kernel)) (goodIn_sub (fun _ h => List.mem_append_left _ (List.mem_append_right _ h)) (by decide +kernel))
set_option maxRecDepth 20000 in
theorem gL_law_L_cause : GoodIn wsL_law (va_wsS RL 173 yL_cause wsL_cause) := goodIn_app (goodIn_of _ (by decide +kernel)) ggL_law_L_cause
set_option maxRecDepth 20000 in
theorem ggL_law_X5_cause : GoodIn wsL_law wsX5_cause := goodIn_r _ [601, 575, 576, 577, 5, 578, 264, 534, 535, 536, 537, 56, 115, 116, 117, 579, 580, 581, 582, 294, 295, 296, 583, 584, 585, 586, 57, 118, 119, 120, 121, 122, 602, 603, 604, 681, 682, 683, 684, 685, 686, 687, 688, 689, 690, 691, 692, 693, 694, 695, 696] (by decide +kernel) (by decide +kernel)
set_option maxRecDepth 20000 in
theorem gL_law_X5_cause : GoodIn wsL_law (wsV RL 175 RX5 yX5_cause wsX5_cause) := goodIn_app (goodIn_of _ (by decide +kernel)) ggL_law_X5_cause
set_option maxRecDepth 20000 in
theorem ggL_law_L_causeByTrying : GoodIn wsL_law wsL_causeByTrying := goodIn_ca (goodIn_r _ [607, 71, 608, 609, 610, 2, 611, 505, 506, 507, 508, 509, 510, 511, 16, 25, 512, 513, 514, 515, 11, 12, 516, 517, 518, 519, 520, 521, 522, 523, 524, 15, 525, 32, 92, 93, 612, 613, 614, 615, 555, 556, 557, 558, 559, 560, 561, 551, 552, 553, 554, 549, 550, 88, 89, 90, 91, 616, 617, 618, 619, 562, 563, 564, 565, 33, 594, 595, 596, 82, 83, 597, 711, 712, 713, 676, 677, 678, 679, 680, 697, 698, 699, 700] (by decide +kernel) (by decide +kernel)) (goodIn_sub (fun _ h => List.mem_append_left _ (List.mem_append_right _ h)) (by decide +kernel))
set_option maxRecDepth 20000 in
theorem gL_law_L_causeByTrying : GoodIn wsL_law (va_wsS RL 176 yL_causeByTrying wsL_causeByTrying) := goodIn_app (goodIn_of _ (by decide +kernel)) ggL_law_L_causeByTrying
set_option maxRecDepth 20000 in
theorem ggL_law_X5_causeByTrying : GoodIn wsL_law wsX5_causeByTrying := goodIn_r _ [623, 624, 599, 600, 5, 601, 575, 576, 577, 578, 264, 534, 535, 536, 537, 56, 115, 116, 117, 579, 580, 581, 582, 294, 295, 296, 583, 584, 585, 586, 57, 118, 119, 120, 121, 122, 602, 603, 604, 681, 682, 683, 684, 685, 686, 687, 688, 689, 690, 691, 692, 693, 694, 695, 696] (by decide +kernel) (by decide +kernel)
set_option maxRecDepth 20000 in
theorem gL_law_X5_causeByTrying : GoodIn wsL_law (wsV RL 178 RX5 yX5_causeByTrying wsX5_causeByTrying) := goodIn_app (goodIn_of _ (by decide +kernel)) ggL_law_X5_causeByTrying
set_option maxRecDepth 20000 in
theorem ggL_law_X4_greedyCauses : GoodIn wsL_law wsX4_greedyCauses := goodIn_r _ [628, 505, 506, 507, 2, 508, 509, 510, 511, 16, 25, 512, 513, 514, 515, 11, 12, 516, 517, 518, 519, 520, 521, 522, 523, 524, 15, 525, 32, 92, 93, 629, 630, 631, 632, 633, 634, 635, 636, 89, 90, 91, 566, 567, 568, 569, 34, 555, 556, 557, 558, 559, 560, 561, 711, 712, 713, 676, 677, 678, 679, 680, 697, 698, 699, 700] (by decide +kernel) (by decide +kernel)
set_option maxRecDepth 20000 in
theorem gL_law_X4_greedyCauses : GoodIn wsL_law (wsV RL 179 RX4 yX4_greedyCauses wsX4_greedyCauses) := goodIn_app (goodIn_of _ (by decide +kernel)) ggL_law_X4_greedyCauses
set_option maxRecDepth 20000 in
theorem ggL_law_X5_greedyCauses : GoodIn wsL_law wsX5_greedyCauses := goodIn_r _ [640, 122, 264, 641, 642, 643, 5, 644, 534, 535, 536, 537, 56, 115, 116, 117, 645, 646, 647, 648, 57, 294, 295, 296, 681, 682, 683, 684, 685, 686, 687, 688, 689, 690, 691, 692, 693, 694, 695, 696] (by decide +kernel) (by decide +kernel)
set_option maxRecDepth 20000 in
theorem gL_law_X5_greedyCauses : GoodIn wsL_law (wsV RL 182 RX5 yX5_greedyCauses wsX5_greedyCauses) := goodIn_app (goodIn_of _ (by decide +kernel)) ggL_law_X5_greedyCauses
set_option maxRecDepth 20000 in
theorem ggL_law_L_greedyCause : GoodIn wsL_law wsL_greedyCause := goodIn_ca (goodIn_r _ [651, 71, 652, 653, 654, 2, 655, 82, 83, 505, 506, 507, 508, 509, 510, 511, 16, 25, 512, 513, 514, 515, 11, 12, 516, 517, 518, 519, 520, 521, 522, 523, 524, 15, 525, 32, 92, 93, 656, 657, 658, 659, 633, 634, 635, 636, 89, 90, 91, 566, 567, 568, 569, 34, 555, 556, 557, 558, 559, 560, 561, 711, 712, 713, 676, 677, 678, 679, 680, 697, 698, 699, 700] (by decide +kernel) (by decide +kernel)) (goodIn_sub (fun _ h => List.mem_append_left _ (List.mem_append_right _ h)) (by decide +kernel))
set_option maxRecDepth 20000 in
theorem gL_law_L_greedyCause : GoodIn wsL_law (va_wsS RL 183 yL_greedyCause wsL_greedyCause) := goodIn_app (goodIn_of _ (by decide +kernel)) ggL_law_L_greedyCause
set_option maxRecDepth 20000 in
theorem ggL_law_X5_greedyCause : GoodIn wsL_law wsX5_greedyCause := goodIn_r _ [663, 264, 641, 642, 643, 5, 644, 534, 535, 536, 537, 56, 115, 116, 117, 645, 646, 647, 648, 57, 294, 295, 296, 118, 119, 120, 121, 122, 681, 682, 683, 684, 685, 686, 687, 688, 689, 690, 691, 692, 693, 694, 695, 696] (by decide +kernel) (by decide +kernel)
set_option maxRecDepth 20000 in
theorem gL_law_X5_greedyCause : GoodIn wsL_law (wsV RL 185 RX5 yX5_greedyCause wsX5_greedyCause) := goodIn_app (goodIn_of _ (by decide +kernel)) ggL_law_X5_greedyCause
set_option maxRecDepth 20000 in
theorem ggL_law_L_causeOf : GoodIn wsL_law wsL_causeOf := goodIn_ca (goodIn_r _ [666, 71, 667, 668, 669, 2, 670, 25, 16, 79, 80, 81, 82, 83, 88, 89, 90, 91, 92, 93, 505, 506, 507, 508, 509, 510, 511, 512, 513, 514, 515, 11, 12, 516, 517, 518, 519, 520, 521, 522, 523, 524, 15, 525, 32, 542, 543, 544, 545, 546, 547, 548, 549, 550, 551, 552, 553, 554, 555, 556, 557, 558, 559, 560, 561, 562, 563, 564, 565, 33, 566, 567, 568, 569, 34, 671, 597, 676, 677, 678, 679, 680, 711, 712, 713, 697, 698, 699, 700] (by decide +kernel) (by decide +kernel)) (goodIn_sub (fun _ h => List.mem_append_left _ (List.mem_append_right _ h)) (by decide +kernel))
set_option maxRecDepth 20000 in
theorem gL_law_L_causeOf : GoodIn wsL_law (va_wsS RL 186 yL_causeOf wsL_causeOf) := goodIn_app (goodIn_of _ (by decide +kernel)) ggL_law_L_causeOf
set_option maxRecDepth 20000 in
theorem ggL_law_X5_causeOf : GoodIn wsL_law wsX5_causeOf := goodIn_r _ [675, 264, 112, 113, 5, 114, 118, 119, 120, 121, 122, 575, 576, 577, 578, 534, 535, 536, 537, 56, 115, 116, 117, 579, 580, 581, 582, 294, 295, 296, 583, 584, 585, 586, 57, 645, 646, 647, 648, 681, 682, 683, 684, 685, 686, 687, 688, 689, 690, 691, 692, 693, 694, 695, 696] (by decide +kernel) (by decide +kernel)
set_option maxRecDepth 20000 in
theorem gL_law_X5_causeOf : GoodIn wsL_law (wsV RL 188 RX5 yX5_causeOf wsX5_causeOf) := goodIn_app (goodIn_of _ (by decide +kernel)) ggL_law_X5_causeOf
end
section
theorem inlX0 : ∀ w ∈ wsX00, w ∈ wsL_law := fun _ h => List.mem_append_left _ (List.mem_append_left _ (List.mem_append_left _ (List.mem_append_left _ (List.mem_append_right _ h))))
theorem inX0 : ∀ w ∈ wsX00, w ∈ lw_tbl := fun w h => wsL_law_in w (inlX0 w h)
theorem inlX1 : ∀ w ∈ wsX10, w ∈ wsL_law := fun _ h => List.mem_append_left _ (List.mem_append_left _ (List.mem_append_left _ (List.mem_append_left _ (List.mem_append_left _ (List.mem_append_left _ (List.mem_append_left _ (List.mem_append_right _ h)))))))
theorem inX1 : ∀ w ∈ wsX10, w ∈ lw_tbl := fun w h => wsL_law_in w (inlX1 w h)
theorem inlX2 : ∀ w ∈ wsX20, w ∈ wsL_law := fun _ h => List.mem_append_left _ (List.mem_append_left _ (List.mem_append_left _ (List.mem_append_left _ (List.mem_append_left _ (List.mem_append_left _ (List.mem_append_right _ h))))))
theorem inX2 : ∀ w ∈ wsX20, w ∈ lw_tbl := fun w h => wsL_law_in w (inlX2 w h)
theorem inlX3 : ∀ w ∈ wsX30, w ∈ wsL_law := fun _ h => List.mem_append_left _ (List.mem_append_left _ (List.mem_append_left _ (List.mem_append_left _ (List.mem_append_left _ (List.mem_append_right _ h)))))
theorem inX3 : ∀ w ∈ wsX30, w ∈ lw_tbl := fun w h => wsL_law_in w (inlX3 w h)
theorem inlX4 : ∀ w ∈ wsX40, w ∈ wsL_law := fun _ h => List.mem_append_left _ (List.mem_append_left _ (List.mem_append_left _ (List.mem_append_left _ (List.mem_append_left _ (List.mem_append_left _ (List.mem_append_left _ (List.mem_append_left _ (List.mem_append_left _ (List.mem_append_right _ h)))))))))
theorem inX4 : ∀ w ∈ wsX40, w ∈ lw_tbl := fun w h => wsL_law_in w (inlX4 w h)
theorem inlX5 : ∀ w ∈ wsX50, w ∈ wsL_law := fun _ h => List.mem_append_left _ (List.mem_append_left _ (List.mem_append_left _ (List.mem_append_left _ (List.mem_append_left _ (List.mem_append_left _ (List.mem_append_left _ (List.mem_append_left _ (List.mem_append_right _ h))))))))
theorem inX5 : ∀ w ∈ wsX50, w ∈ lw_tbl := fun w h => wsL_law_in w (inlX5 w h)
theorem inJ6 : ∀ w ∈ wsJ60, w ∈ lw_tbl := by decide +kernel
theorem inJ9 : ∀ w ∈ wsJ90, w ∈ lw_tbl := by decide +kernel
theorem inJ0 : ∀ w ∈ wsJ00, w ∈ lw_tbl := by decide +kernel
theorem dX0_init_0 : decode cX0_init 0 = .ok (.aload_n 0, 1) := by decide +kernel
theorem dX0_init_1 : decode cX0_init 1 = .ok (.invokespecial 3, 3) := by decide +kernel
theorem dX0_init_4 : decode cX0_init 4 = .ok (.aload_n 0, 1) := by decide +kernel
theorem dX0_init_5 : decode cX0_init 5 = .ok (.aload_n 1, 1) := by decide +kernel
theorem dX0_init_6 : decode cX0_init 6 = .ok (.putfield 9, 3) := by decide +kernel
theorem dX0_init_9 : decode cX0_init 9 = .ok (.aload_n 0, 1) := by decide +kernel
theorem dX0_init_10 : decode cX0_init 10 = .ok (.iload_n 2, 1) := by decide +kernel
theorem dX0_init_11 : decode cX0_init 11 = .ok (.putfield 15, 3) := by decide +kernel
theorem dX0_init_14 : decode cX0_init 14 = .ok (.aload_n 0, 1) := by decide +kernel
theorem dX0_init_15 : decode cX0_init 15 = .ok (.aload_n 1, 1) := by decide +kernel
theorem dX0_init_16 : decode cX0_init 16 = .ok (.iload_n 2, 1) := by decide +kernel
theorem dX0_init_17 : decode cX0_init 17 = .ok (.invokestatic 19, 3) := by decide +kernel
theorem dX0_init_20 : decode cX0_init 20 = .ok (.putfield 23, 3) := by decide +kernel
theorem dX0_init_23 : decode cX0_init 23 = .ok (.return_, 1) := by decide +kernel
theorem dX0_plausibleNodes_0 : decode cX0_plausibleNodes 0 = .ok (.aload_n 0, 1) := by decide +kernel
theorem dX0_plausibleNodes_1 : decode cX0_plausibleNodes 1 = .ok (.getfield 23, 3) := by decide +kernel
theorem dX0_plausibleNodes_4 : decode cX0_plausibleNodes 4 = .ok (.ireturn, 1) := by decide +kernel
theorem dX0_bestBySearch_0 : decode cX0_bestBySearch 0 = .ok (.aload_n 0, 1) := by decide +kernel
theorem dX0_bestBySearch_1 : decode cX0_bestBySearch 1 = .ok (.iconst 0, 1) := by decide +kernel
theorem dX0_bestBySearch_2 : decode cX0_bestBySearch 2 = .ok (.iconst 0, 1) := by decide +kernel
theorem dX0_bestBySearch_3 : decode cX0_bestBySearch 3 = .ok (.aload_n 0, 1) := by decide +kernel
theorem dX0_bestBySearch_4 : decode cX0_bestBySearch 4 = .ok (.getfield 15, 3) := by decide +kernel
theorem dX0_bestBySearch_7 : decode cX0_bestBySearch 7 = .ok (.aload_n 0, 1) := by decide +kernel
theorem dX0_bestBySearch_8 : decode cX0_bestBySearch 8 = .ok (.getfield 23, 3) := by decide +kernel
theorem dX0_bestBySearch_11 : decode cX0_bestBySearch 11 = .ok (.aload_n 0, 1) := by decide +kernel
theorem dX0_bestBySearch_12 : decode cX0_bestBySearch 12 = .ok (.getfield 15, 3) := by decide +kernel
theorem dX0_bestBySearch_15 : decode cX0_bestBySearch 15 = .ok (.invokestatic 26, 3) := by decide +kernel
theorem dX0_bestBySearch_18 : decode cX0_bestBySearch 18 = .ok (.ireturn, 1) := by decide +kernel
theorem dX0_bestByTrying_0 : decode cX0_bestByTrying 0 = .ok (.aload_n 0, 1) := by decide +kernel
theorem dX0_bestByTrying_1 : decode cX0_bestByTrying 1 = .ok (.getfield 15, 3) := by decide +kernel
theorem dX0_bestByTrying_4 : decode cX0_bestByTrying 4 = .ok (.istore_n 1, 1) := by decide +kernel
theorem dX0_bestByTrying_5 : decode cX0_bestByTrying 5 = .ok (.iconst 1, 1) := by decide +kernel
theorem dX0_bestByTrying_6 : decode cX0_bestByTrying 6 = .ok (.aload_n 0, 1) := by decide +kernel
theorem dX0_bestByTrying_7 : decode cX0_bestByTrying 7 = .ok (.getfield 23, 3) := by decide +kernel
theorem dX0_bestByTrying_10 : decode cX0_bestByTrying 10 = .ok (.invokestatic 30, 3) := by decide +kernel
theorem dX0_bestByTrying_13 : decode cX0_bestByTrying 13 = .ok (.ishl, 1) := by decide +kernel
theorem dX0_bestByTrying_14 : decode cX0_bestByTrying 14 = .ok (.istore_n 2, 1) := by decide +kernel
theorem dX0_bestByTrying_15 : decode cX0_bestByTrying 15 = .ok (.iconst 0, 1) := by decide +kernel
theorem dX0_bestByTrying_16 : decode cX0_bestByTrying 16 = .ok (.istore_n 3, 1) := by decide +kernel
theorem dX0_bestByTrying_17 : decode cX0_bestByTrying 17 = .ok (.iconst 0, 1) := by decide +kernel
theorem dX0_bestByTrying_18 : decode cX0_bestByTrying 18 = .ok (.istore 4, 2) := by decide +kernel
theorem dX0_bestByTrying_20 : decode cX0_bestByTrying 20 = .ok (.iload 4, 2) := by decide +kernel
theorem dX0_bestByTrying_22 : decode cX0_bestByTrying 22 = .ok (.iload_n 2, 1) := by decide +kernel
theorem dX0_bestByTrying_23 : decode cX0_bestByTrying 23 = .ok (.if_icmp .ge 40, 3) := by decide +kernel
theorem dX0_bestByTrying_26 : decode cX0_bestByTrying 26 = .ok (.aload_n 0, 1) := by decide +kernel
theorem dX0_bestByTrying_27 : decode cX0_bestByTrying 27 = .ok (.iload_n 3, 1) := by decide +kernel
theorem dX0_bestByTrying_28 : decode cX0_bestByTrying 28 = .ok (.iload_n 1, 1) := by decide +kernel
theorem dX0_bestByTrying_29 : decode cX0_bestByTrying 29 = .ok (.invokevirtual 36, 3) := by decide +kernel
theorem dX0_bestByTrying_32 : decode cX0_bestByTrying 32 = .ok (.ifCond .eq 13, 3) := by decide +kernel
theorem dX0_bestByTrying_35 : decode cX0_bestByTrying 35 = .ok (.aload_n 0, 1) := by decide +kernel
theorem dX0_bestByTrying_36 : decode cX0_bestByTrying 36 = .ok (.iload_n 3, 1) := by decide +kernel
theorem dX0_bestByTrying_37 : decode cX0_bestByTrying 37 = .ok (.invokevirtual 40, 3) := by decide +kernel
theorem dX0_bestByTrying_40 : decode cX0_bestByTrying 40 = .ok (.ifCond .eq 5, 3) := by decide +kernel
theorem dX0_bestByTrying_43 : decode cX0_bestByTrying 43 = .ok (.iload_n 3, 1) := by decide +kernel
theorem dX0_bestByTrying_44 : decode cX0_bestByTrying 44 = .ok (.istore_n 1, 1) := by decide +kernel
theorem dX0_bestByTrying_45 : decode cX0_bestByTrying 45 = .ok (.iload_n 3, 1) := by decide +kernel
theorem dX0_bestByTrying_46 : decode cX0_bestByTrying 46 = .ok (.aload_n 0, 1) := by decide +kernel
theorem dX0_bestByTrying_47 : decode cX0_bestByTrying 47 = .ok (.getfield 23, 3) := by decide +kernel
theorem dX0_bestByTrying_50 : decode cX0_bestByTrying 50 = .ok (.isub, 1) := by decide +kernel
theorem dX0_bestByTrying_51 : decode cX0_bestByTrying 51 = .ok (.aload_n 0, 1) := by decide +kernel
theorem dX0_bestByTrying_52 : decode cX0_bestByTrying 52 = .ok (.getfield 23, 3) := by decide +kernel
theorem dX0_bestByTrying_55 : decode cX0_bestByTrying 55 = .ok (.iand, 1) := by decide +kernel
theorem dX0_bestByTrying_56 : decode cX0_bestByTrying 56 = .ok (.istore_n 3, 1) := by decide +kernel
theorem dX0_bestByTrying_57 : decode cX0_bestByTrying 57 = .ok (.iinc 4 1, 3) := by decide +kernel
theorem dX0_bestByTrying_60 : decode cX0_bestByTrying 60 = .ok (.goto (-40), 3) := by decide +kernel
theorem dX0_bestByTrying_63 : decode cX0_bestByTrying 63 = .ok (.iload_n 1, 1) := by decide +kernel
theorem dX0_bestByTrying_64 : decode cX0_bestByTrying 64 = .ok (.ireturn, 1) := by decide +kernel
theorem dX0_greedyCount_0 : decode cX0_greedyCount 0 = .ok (.aload_n 0, 1) := by decide +kernel
theorem dX0_greedyCount_1 : decode cX0_greedyCount 1 = .ok (.getfield 15, 3) := by decide +kernel
theorem dX0_greedyCount_4 : decode cX0_greedyCount 4 = .ok (.istore_n 1, 1) := by decide +kernel
theorem dX0_greedyCount_5 : decode cX0_greedyCount 5 = .ok (.iconst 0, 1) := by decide +kernel
theorem dX0_greedyCount_6 : decode cX0_greedyCount 6 = .ok (.istore_n 2, 1) := by decide +kernel
theorem dX0_greedyCount_7 : decode cX0_greedyCount 7 = .ok (.iload_n 1, 1) := by decide +kernel
theorem dX0_greedyCount_8 : decode cX0_greedyCount 8 = .ok (.ifCond .eq 32, 3) := by decide +kernel
theorem dX0_greedyCount_11 : decode cX0_greedyCount 11 = .ok (.iload_n 2, 1) := by decide +kernel
theorem dX0_greedyCount_12 : decode cX0_greedyCount 12 = .ok (.bipush 14, 2) := by decide +kernel
theorem dX0_greedyCount_14 : decode cX0_greedyCount 14 = .ok (.if_icmp .ge 26, 3) := by decide +kernel
theorem dX0_greedyCount_17 : decode cX0_greedyCount 17 = .ok (.iload_n 1, 1) := by decide +kernel
theorem dX0_greedyCount_18 : decode cX0_greedyCount 18 = .ok (.aload_n 0, 1) := by decide +kernel
theorem dX0_greedyCount_19 : decode cX0_greedyCount 19 = .ok (.getfield 9, 3) := by decide +kernel
theorem dX0_greedyCount_22 : decode cX0_greedyCount 22 = .ok (.aload_n 0, 1) := by decide +kernel
theorem dX0_greedyCount_23 : decode cX0_greedyCount 23 = .ok (.iload_n 1, 1) := by decide +kernel
theorem dX0_greedyCount_24 : decode cX0_greedyCount 24 = .ok (.invokevirtual 44, 3) := by decide +kernel
theorem dX0_greedyCount_27 : decode cX0_greedyCount 27 = .ok (.invokevirtual 47, 3) := by decide +kernel
theorem dX0_greedyCount_30 : decode cX0_greedyCount 30 = .ok (.iconst (-1), 1) := by decide +kernel
theorem dX0_greedyCount_31 : decode cX0_greedyCount 31 = .ok (.ixor, 1) := by decide +kernel
theorem dX0_greedyCount_32 : decode cX0_greedyCount 32 = .ok (.iand, 1) := by decide +kernel
theorem dX0_greedyCount_33 : decode cX0_greedyCount 33 = .ok (.istore_n 1, 1) := by decide +kernel
theorem dX0_greedyCount_34 : decode cX0_greedyCount 34 = .ok (.iinc 2 1, 3) := by decide +kernel
theorem dX0_greedyCount_37 : decode cX0_greedyCount 37 = .ok (.goto (-30), 3) := by decide +kernel
theorem dX0_greedyCount_40 : decode cX0_greedyCount 40 = .ok (.iload_n 2, 1) := by decide +kernel
theorem dX0_greedyCount_41 : decode cX0_greedyCount 41 = .ok (.ireturn, 1) := by decide +kernel
theorem dX0_greedyAt_0 : decode cX0_greedyAt 0 = .ok (.aload_n 0, 1) := by decide +kernel
theorem dX0_greedyAt_1 : decode cX0_greedyAt 1 = .ok (.getfield 15, 3) := by decide +kernel
theorem dX0_greedyAt_4 : decode cX0_greedyAt 4 = .ok (.istore_n 2, 1) := by decide +kernel
theorem dX0_greedyAt_5 : decode cX0_greedyAt 5 = .ok (.iconst 0, 1) := by decide +kernel
theorem dX0_greedyAt_6 : decode cX0_greedyAt 6 = .ok (.istore_n 3, 1) := by decide +kernel
theorem dX0_greedyAt_7 : decode cX0_greedyAt 7 = .ok (.iload_n 3, 1) := by decide +kernel
theorem dX0_greedyAt_8 : decode cX0_greedyAt 8 = .ok (.bipush 14, 2) := by decide +kernel
theorem dX0_greedyAt_10 : decode cX0_greedyAt 10 = .ok (.if_icmp .ge 42, 3) := by decide +kernel
theorem dX0_greedyAt_13 : decode cX0_greedyAt 13 = .ok (.iload_n 2, 1) := by decide +kernel
theorem dX0_greedyAt_14 : decode cX0_greedyAt 14 = .ok (.ifCond .eq 38, 3) := by decide +kernel
theorem dX0_greedyAt_17 : decode cX0_greedyAt 17 = .ok (.aload_n 0, 1) := by decide +kernel
theorem dX0_greedyAt_18 : decode cX0_greedyAt 18 = .ok (.iload_n 2, 1) := by decide +kernel
theorem dX0_greedyAt_19 : decode cX0_greedyAt 19 = .ok (.invokevirtual 44, 3) := by decide +kernel
theorem dX0_greedyAt_22 : decode cX0_greedyAt 22 = .ok (.istore 4, 2) := by decide +kernel
theorem dX0_greedyAt_24 : decode cX0_greedyAt 24 = .ok (.iload_n 3, 1) := by decide +kernel
theorem dX0_greedyAt_25 : decode cX0_greedyAt 25 = .ok (.iload_n 1, 1) := by decide +kernel
theorem dX0_greedyAt_26 : decode cX0_greedyAt 26 = .ok (.if_icmp .ne 6, 3) := by decide +kernel
theorem dX0_greedyAt_29 : decode cX0_greedyAt 29 = .ok (.iload 4, 2) := by decide +kernel
theorem dX0_greedyAt_31 : decode cX0_greedyAt 31 = .ok (.ireturn, 1) := by decide +kernel
theorem dX0_greedyAt_32 : decode cX0_greedyAt 32 = .ok (.iload_n 2, 1) := by decide +kernel
theorem dX0_greedyAt_33 : decode cX0_greedyAt 33 = .ok (.aload_n 0, 1) := by decide +kernel
theorem dX0_greedyAt_34 : decode cX0_greedyAt 34 = .ok (.getfield 9, 3) := by decide +kernel
theorem dX0_greedyAt_37 : decode cX0_greedyAt 37 = .ok (.iload 4, 2) := by decide +kernel
theorem dX0_greedyAt_39 : decode cX0_greedyAt 39 = .ok (.invokevirtual 47, 3) := by decide +kernel
theorem dX0_greedyAt_42 : decode cX0_greedyAt 42 = .ok (.iconst (-1), 1) := by decide +kernel
theorem dX0_greedyAt_43 : decode cX0_greedyAt 43 = .ok (.ixor, 1) := by decide +kernel
theorem dX0_greedyAt_44 : decode cX0_greedyAt 44 = .ok (.iand, 1) := by decide +kernel
theorem dX0_greedyAt_45 : decode cX0_greedyAt 45 = .ok (.istore_n 2, 1) := by decide +kernel
theorem dX0_greedyAt_46 : decode cX0_greedyAt 46 = .ok (.iinc 3 1, 3) := by decide +kernel
theorem dX0_greedyAt_49 : decode cX0_greedyAt 49 = .ok (.goto (-42), 3) := by decide +kernel
theorem dX0_greedyAt_52 : decode cX0_greedyAt 52 = .ok (.iconst (-1), 1) := by decide +kernel
theorem dX0_greedyAt_53 : decode cX0_greedyAt 53 = .ok (.ireturn, 1) := by decide +kernel
theorem dX0_greedyNext_0 : decode cX0_greedyNext 0 = .ok (.iconst 0, 1) := by decide +kernel
theorem dX0_greedyNext_1 : decode cX0_greedyNext 1 = .ok (.istore_n 2, 1) := by decide +kernel
theorem dX0_greedyNext_2 : decode cX0_greedyNext 2 = .ok (.iconst 0, 1) := by decide +kernel
theorem dX0_greedyNext_3 : decode cX0_greedyNext 3 = .ok (.istore_n 3, 1) := by decide +kernel
theorem dX0_greedyNext_4 : decode cX0_greedyNext 4 = .ok (.iconst 0, 1) := by decide +kernel
theorem dX0_greedyNext_5 : decode cX0_greedyNext 5 = .ok (.istore 4, 2) := by decide +kernel
theorem dX0_greedyNext_7 : decode cX0_greedyNext 7 = .ok (.iload 4, 2) := by decide +kernel
theorem dX0_greedyNext_9 : decode cX0_greedyNext 9 = .ok (.bipush 14, 2) := by decide +kernel
theorem dX0_greedyNext_11 : decode cX0_greedyNext 11 = .ok (.if_icmp .ge 99, 3) := by decide +kernel
theorem dX0_greedyNext_14 : decode cX0_greedyNext 14 = .ok (.aload_n 0, 1) := by decide +kernel
theorem dX0_greedyNext_15 : decode cX0_greedyNext 15 = .ok (.getfield 23, 3) := by decide +kernel
theorem dX0_greedyNext_18 : decode cX0_greedyNext 18 = .ok (.iload 4, 2) := by decide +kernel
theorem dX0_greedyNext_20 : decode cX0_greedyNext 20 = .ok (.invokestatic 52, 3) := by decide +kernel
theorem dX0_greedyNext_23 : decode cX0_greedyNext 23 = .ok (.ifCond .eq 20, 3) := by decide +kernel
theorem dX0_greedyNext_26 : decode cX0_greedyNext 26 = .ok (.aload_n 0, 1) := by decide +kernel
theorem dX0_greedyNext_27 : decode cX0_greedyNext 27 = .ok (.getfield 9, 3) := by decide +kernel
theorem dX0_greedyNext_30 : decode cX0_greedyNext 30 = .ok (.iload 4, 2) := by decide +kernel
theorem dX0_greedyNext_32 : decode cX0_greedyNext 32 = .ok (.invokevirtual 47, 3) := by decide +kernel
theorem dX0_greedyNext_35 : decode cX0_greedyNext 35 = .ok (.iload_n 1, 1) := by decide +kernel
theorem dX0_greedyNext_36 : decode cX0_greedyNext 36 = .ok (.iand, 1) := by decide +kernel
theorem dX0_greedyNext_37 : decode cX0_greedyNext 37 = .ok (.invokestatic 30, 3) := by decide +kernel
theorem dX0_greedyNext_40 : decode cX0_greedyNext 40 = .ok (.goto 4, 3) := by decide +kernel
theorem dX0_greedyNext_43 : decode cX0_greedyNext 43 = .ok (.iconst 0, 1) := by decide +kernel
theorem dX0_greedyNext_44 : decode cX0_greedyNext 44 = .ok (.istore 5, 2) := by decide +kernel
theorem dX0_greedyNext_46 : decode cX0_greedyNext 46 = .ok (.iload 5, 2) := by decide +kernel
theorem dX0_greedyNext_48 : decode cX0_greedyNext 48 = .ok (.iload_n 3, 1) := by decide +kernel
theorem dX0_greedyNext_49 : decode cX0_greedyNext 49 = .ok (.if_icmp .ne 30, 3) := by decide +kernel
theorem dX0_greedyNext_52 : decode cX0_greedyNext 52 = .ok (.aload_n 0, 1) := by decide +kernel
theorem dX0_greedyNext_53 : decode cX0_greedyNext 53 = .ok (.getfield 15, 3) := by decide +kernel
theorem dX0_greedyNext_56 : decode cX0_greedyNext 56 = .ok (.iload 4, 2) := by decide +kernel
theorem dX0_greedyNext_58 : decode cX0_greedyNext 58 = .ok (.invokestatic 52, 3) := by decide +kernel
theorem dX0_greedyNext_61 : decode cX0_greedyNext 61 = .ok (.ifCond .eq 18, 3) := by decide +kernel
theorem dX0_greedyNext_64 : decode cX0_greedyNext 64 = .ok (.aload_n 0, 1) := by decide +kernel
theorem dX0_greedyNext_65 : decode cX0_greedyNext 65 = .ok (.getfield 15, 3) := by decide +kernel
theorem dX0_greedyNext_68 : decode cX0_greedyNext 68 = .ok (.iload_n 2, 1) := by decide +kernel
theorem dX0_greedyNext_69 : decode cX0_greedyNext 69 = .ok (.invokestatic 52, 3) := by decide +kernel
theorem dX0_greedyNext_72 : decode cX0_greedyNext 72 = .ok (.ifCond .ne 7, 3) := by decide +kernel
theorem dX0_greedyNext_75 : decode cX0_greedyNext 75 = .ok (.iconst 1, 1) := by decide +kernel
theorem dX0_greedyNext_76 : decode cX0_greedyNext 76 = .ok (.goto 4, 3) := by decide +kernel
theorem dX0_greedyNext_79 : decode cX0_greedyNext 79 = .ok (.iconst 0, 1) := by decide +kernel
theorem dX0_greedyNext_80 : decode cX0_greedyNext 80 = .ok (.istore 6, 2) := by decide +kernel
theorem dX0_greedyNext_82 : decode cX0_greedyNext 82 = .ok (.iload 5, 2) := by decide +kernel
theorem dX0_greedyNext_84 : decode cX0_greedyNext 84 = .ok (.iload_n 3, 1) := by decide +kernel
theorem dX0_greedyNext_85 : decode cX0_greedyNext 85 = .ok (.if_icmp .gt 13, 3) := by decide +kernel
theorem dX0_greedyNext_88 : decode cX0_greedyNext 88 = .ok (.iload 5, 2) := by decide +kernel
theorem dX0_greedyNext_90 : decode cX0_greedyNext 90 = .ok (.ifCond .le 14, 3) := by decide +kernel
theorem dX0_greedyNext_93 : decode cX0_greedyNext 93 = .ok (.iload 6, 2) := by decide +kernel
theorem dX0_greedyNext_95 : decode cX0_greedyNext 95 = .ok (.ifCond .eq 9, 3) := by decide +kernel
theorem dX0_greedyNext_98 : decode cX0_greedyNext 98 = .ok (.iload 4, 2) := by decide +kernel
theorem dX0_greedyNext_100 : decode cX0_greedyNext 100 = .ok (.istore_n 2, 1) := by decide +kernel
theorem dX0_greedyNext_101 : decode cX0_greedyNext 101 = .ok (.iload 5, 2) := by decide +kernel
theorem dX0_greedyNext_103 : decode cX0_greedyNext 103 = .ok (.istore_n 3, 1) := by decide +kernel
theorem dX0_greedyNext_104 : decode cX0_greedyNext 104 = .ok (.iinc 4 1, 3) := by decide +kernel
theorem dX0_greedyNext_107 : decode cX0_greedyNext 107 = .ok (.goto (-100), 3) := by decide +kernel
theorem dX0_greedyNext_110 : decode cX0_greedyNext 110 = .ok (.iload_n 2, 1) := by decide +kernel
theorem dX0_greedyNext_111 : decode cX0_greedyNext 111 = .ok (.ireturn, 1) := by decide +kernel
theorem dX0_search_0 : decode cX0_search 0 = .ok (.iload_n 3, 1) := by decide +kernel
theorem dX0_search_1 : decode cX0_search 1 = .ok (.iconst 0, 1) := by decide +kernel
theorem dX0_search_2 : decode cX0_search 2 = .ok (.invokestatic 55, 3) := by decide +kernel
theorem dX0_search_5 : decode cX0_search 5 = .ok (.istore 6, 2) := by decide +kernel
theorem dX0_search_7 : decode cX0_search 7 = .ok (.iload 6, 2) := by decide +kernel
theorem dX0_search_9 : decode cX0_search 9 = .ok (.iconst (-1), 1) := by decide +kernel
theorem dX0_search_10 : decode cX0_search 10 = .ok (.if_icmp .ne 20, 3) := by decide +kernel
theorem dX0_search_13 : decode cX0_search 13 = .ok (.aload_n 0, 1) := by decide +kernel
theorem dX0_search_14 : decode cX0_search 14 = .ok (.iload_n 2, 1) := by decide +kernel
theorem dX0_search_15 : decode cX0_search 15 = .ok (.iload 5, 2) := by decide +kernel
theorem dX0_search_17 : decode cX0_search 17 = .ok (.invokevirtual 36, 3) := by decide +kernel
theorem dX0_search_20 : decode cX0_search 20 = .ok (.ifCond .eq 7, 3) := by decide +kernel
theorem dX0_search_23 : decode cX0_search 23 = .ok (.iload_n 2, 1) := by decide +kernel
theorem dX0_search_24 : decode cX0_search 24 = .ok (.goto 5, 3) := by decide +kernel
theorem dX0_search_27 : decode cX0_search 27 = .ok (.iload 5, 2) := by decide +kernel
theorem dX0_search_29 : decode cX0_search 29 = .ok (.ireturn, 1) := by decide +kernel
theorem dX0_search_30 : decode cX0_search 30 = .ok (.iload 5, 2) := by decide +kernel
theorem dX0_search_32 : decode cX0_search 32 = .ok (.istore 7, 2) := by decide +kernel
theorem dX0_search_34 : decode cX0_search 34 = .ok (.iload 4, 2) := by decide +kernel
theorem dX0_search_36 : decode cX0_search 36 = .ok (.istore 8, 2) := by decide +kernel
theorem dX0_search_38 : decode cX0_search 38 = .ok (.aload_n 0, 1) := by decide +kernel
theorem dX0_search_39 : decode cX0_search 39 = .ok (.getfield 9, 3) := by decide +kernel
theorem dX0_search_42 : decode cX0_search 42 = .ok (.iload 6, 2) := by decide +kernel
theorem dX0_search_44 : decode cX0_search 44 = .ok (.invokevirtual 59, 3) := by decide +kernel
theorem dX0_search_47 : decode cX0_search 47 = .ok (.iload 4, 2) := by decide +kernel
theorem dX0_search_49 : decode cX0_search 49 = .ok (.iand, 1) := by decide +kernel
theorem dX0_search_50 : decode cX0_search 50 = .ok (.istore 9, 2) := by decide +kernel
theorem dX0_search_52 : decode cX0_search 52 = .ok (.iconst 0, 1) := by decide +kernel
theorem dX0_search_53 : decode cX0_search 53 = .ok (.istore 10, 2) := by decide +kernel
theorem dX0_search_55 : decode cX0_search 55 = .ok (.iload 10, 2) := by decide +kernel
theorem dX0_search_57 : decode cX0_search 57 = .ok (.bipush 14, 2) := by decide +kernel
theorem dX0_search_59 : decode cX0_search 59 = .ok (.if_icmp .ge 95, 3) := by decide +kernel
theorem dX0_search_62 : decode cX0_search 62 = .ok (.iload_n 1, 1) := by decide +kernel
theorem dX0_search_63 : decode cX0_search 63 = .ok (.bipush 14, 2) := by decide +kernel
theorem dX0_search_65 : decode cX0_search 65 = .ok (.if_icmp .ge 16, 3) := by decide +kernel
theorem dX0_search_68 : decode cX0_search 68 = .ok (.iload_n 1, 1) := by decide +kernel
theorem dX0_search_69 : decode cX0_search 69 = .ok (.iload 7, 2) := by decide +kernel
theorem dX0_search_71 : decode cX0_search 71 = .ok (.invokestatic 30, 3) := by decide +kernel
theorem dX0_search_74 : decode cX0_search 74 = .ok (.if_icmp .ge 7, 3) := by decide +kernel
theorem dX0_search_77 : decode cX0_search 77 = .ok (.iconst 1, 1) := by decide +kernel
theorem dX0_search_78 : decode cX0_search 78 = .ok (.goto 4, 3) := by decide +kernel
theorem dX0_search_81 : decode cX0_search 81 = .ok (.iconst 0, 1) := by decide +kernel
theorem dX0_search_82 : decode cX0_search 82 = .ok (.istore 11, 2) := by decide +kernel
theorem dX0_search_84 : decode cX0_search 84 = .ok (.iload 9, 2) := by decide +kernel
theorem dX0_search_86 : decode cX0_search 86 = .ok (.iload 10, 2) := by decide +kernel
theorem dX0_search_88 : decode cX0_search 88 = .ok (.invokestatic 52, 3) := by decide +kernel
theorem dX0_search_91 : decode cX0_search 91 = .ok (.ifCond .eq 57, 3) := by decide +kernel
theorem dX0_search_94 : decode cX0_search 94 = .ok (.iload 11, 2) := by decide +kernel
theorem dX0_search_96 : decode cX0_search 96 = .ok (.ifCond .eq 52, 3) := by decide +kernel
theorem dX0_search_99 : decode cX0_search 99 = .ok (.iload 8, 2) := by decide +kernel
theorem dX0_search_101 : decode cX0_search 101 = .ok (.iload 10, 2) := by decide +kernel
theorem dX0_search_103 : decode cX0_search 103 = .ok (.invokestatic 62, 3) := by decide +kernel
theorem dX0_search_106 : decode cX0_search 106 = .ok (.iconst (-1), 1) := by decide +kernel
theorem dX0_search_107 : decode cX0_search 107 = .ok (.ixor, 1) := by decide +kernel
theorem dX0_search_108 : decode cX0_search 108 = .ok (.iand, 1) := by decide +kernel
theorem dX0_search_109 : decode cX0_search 109 = .ok (.istore 8, 2) := by decide +kernel
theorem dX0_search_111 : decode cX0_search 111 = .ok (.iload_n 3, 1) := by decide +kernel
theorem dX0_search_112 : decode cX0_search 112 = .ok (.aload_n 0, 1) := by decide +kernel
theorem dX0_search_113 : decode cX0_search 113 = .ok (.getfield 9, 3) := by decide +kernel
theorem dX0_search_116 : decode cX0_search 116 = .ok (.iload 10, 2) := by decide +kernel
theorem dX0_search_118 : decode cX0_search 118 = .ok (.invokevirtual 47, 3) := by decide +kernel
theorem dX0_search_121 : decode cX0_search 121 = .ok (.iconst (-1), 1) := by decide +kernel
theorem dX0_search_122 : decode cX0_search 122 = .ok (.ixor, 1) := by decide +kernel
theorem dX0_search_123 : decode cX0_search 123 = .ok (.iand, 1) := by decide +kernel
theorem dX0_search_124 : decode cX0_search 124 = .ok (.istore 12, 2) := by decide +kernel
theorem dX0_search_126 : decode cX0_search 126 = .ok (.aload_n 0, 1) := by decide +kernel
theorem dX0_search_127 : decode cX0_search 127 = .ok (.iload_n 1, 1) := by decide +kernel
theorem dX0_search_128 : decode cX0_search 128 = .ok (.iconst 1, 1) := by decide +kernel
theorem dX0_search_129 : decode cX0_search 129 = .ok (.iadd, 1) := by decide +kernel
theorem dX0_search_130 : decode cX0_search 130 = .ok (.iload_n 2, 1) := by decide +kernel
theorem dX0_search_131 : decode cX0_search 131 = .ok (.iload 10, 2) := by decide +kernel
theorem dX0_search_133 : decode cX0_search 133 = .ok (.invokestatic 62, 3) := by decide +kernel
theorem dX0_search_136 : decode cX0_search 136 = .ok (.ior, 1) := by decide +kernel
theorem dX0_search_137 : decode cX0_search 137 = .ok (.iload 12, 2) := by decide +kernel
theorem dX0_search_139 : decode cX0_search 139 = .ok (.iload 8, 2) := by decide +kernel
theorem dX0_search_141 : decode cX0_search 141 = .ok (.iload 7, 2) := by decide +kernel
theorem dX0_search_143 : decode cX0_search 143 = .ok (.invokestatic 26, 3) := by decide +kernel
theorem dX0_search_146 : decode cX0_search 146 = .ok (.istore 7, 2) := by decide +kernel
theorem dX0_search_148 : decode cX0_search 148 = .ok (.iinc 10 1, 3) := by decide +kernel
theorem dX0_search_151 : decode cX0_search 151 = .ok (.goto (-96), 3) := by decide +kernel
theorem dX0_search_154 : decode cX0_search 154 = .ok (.iload 7, 2) := by decide +kernel
theorem dX0_search_156 : decode cX0_search 156 = .ok (.ireturn, 1) := by decide +kernel
theorem dX0_isBetter_0 : decode cX0_isBetter 0 = .ok (.iload_n 1, 1) := by decide +kernel
theorem dX0_isBetter_1 : decode cX0_isBetter 1 = .ok (.invokestatic 30, 3) := by decide +kernel
theorem dX0_isBetter_4 : decode cX0_isBetter 4 = .ok (.istore_n 3, 1) := by decide +kernel
theorem dX0_isBetter_5 : decode cX0_isBetter 5 = .ok (.iload_n 2, 1) := by decide +kernel
theorem dX0_isBetter_6 : decode cX0_isBetter 6 = .ok (.invokestatic 30, 3) := by decide +kernel
theorem dX0_isBetter_9 : decode cX0_isBetter 9 = .ok (.istore 4, 2) := by decide +kernel
theorem dX0_isBetter_11 : decode cX0_isBetter 11 = .ok (.iload_n 3, 1) := by decide +kernel
theorem dX0_isBetter_12 : decode cX0_isBetter 12 = .ok (.iload 4, 2) := by decide +kernel
theorem dX0_isBetter_14 : decode cX0_isBetter 14 = .ok (.if_icmp .eq 15, 3) := by decide +kernel
theorem dX0_isBetter_17 : decode cX0_isBetter 17 = .ok (.iload_n 3, 1) := by decide +kernel
theorem dX0_isBetter_18 : decode cX0_isBetter 18 = .ok (.iload 4, 2) := by decide +kernel
theorem dX0_isBetter_20 : decode cX0_isBetter 20 = .ok (.if_icmp .ge 7, 3) := by decide +kernel
theorem dX0_isBetter_23 : decode cX0_isBetter 23 = .ok (.iconst 1, 1) := by decide +kernel
theorem dX0_isBetter_24 : decode cX0_isBetter 24 = .ok (.goto 4, 3) := by decide +kernel
theorem dX0_isBetter_27 : decode cX0_isBetter 27 = .ok (.iconst 0, 1) := by decide +kernel
theorem dX0_isBetter_28 : decode cX0_isBetter 28 = .ok (.ireturn, 1) := by decide +kernel
theorem dX0_isBetter_29 : decode cX0_isBetter 29 = .ok (.iload_n 1, 1) := by decide +kernel
theorem dX0_isBetter_30 : decode cX0_isBetter 30 = .ok (.aload_n 0, 1) := by decide +kernel
theorem dX0_isBetter_31 : decode cX0_isBetter 31 = .ok (.getfield 15, 3) := by decide +kernel
theorem dX0_isBetter_34 : decode cX0_isBetter 34 = .ok (.iand, 1) := by decide +kernel
theorem dX0_isBetter_35 : decode cX0_isBetter 35 = .ok (.invokestatic 30, 3) := by decide +kernel
theorem dX0_isBetter_38 : decode cX0_isBetter 38 = .ok (.istore 5, 2) := by decide +kernel
theorem dX0_isBetter_40 : decode cX0_isBetter 40 = .ok (.iload_n 2, 1) := by decide +kernel
theorem dX0_isBetter_41 : decode cX0_isBetter 41 = .ok (.aload_n 0, 1) := by decide +kernel
theorem dX0_isBetter_42 : decode cX0_isBetter 42 = .ok (.getfield 15, 3) := by decide +kernel
theorem dX0_isBetter_45 : decode cX0_isBetter 45 = .ok (.iand, 1) := by decide +kernel
theorem dX0_isBetter_46 : decode cX0_isBetter 46 = .ok (.invokestatic 30, 3) := by decide +kernel
theorem dX0_isBetter_49 : decode cX0_isBetter 49 = .ok (.istore 6, 2) := by decide +kernel
theorem dX0_isBetter_51 : decode cX0_isBetter 51 = .ok (.iload 5, 2) := by decide +kernel
theorem dX0_isBetter_53 : decode cX0_isBetter 53 = .ok (.iload 6, 2) := by decide +kernel
theorem dX0_isBetter_55 : decode cX0_isBetter 55 = .ok (.if_icmp .eq 16, 3) := by decide +kernel
theorem dX0_isBetter_58 : decode cX0_isBetter 58 = .ok (.iload 5, 2) := by decide +kernel
theorem dX0_isBetter_60 : decode cX0_isBetter 60 = .ok (.iload 6, 2) := by decide +kernel
theorem dX0_isBetter_62 : decode cX0_isBetter 62 = .ok (.if_icmp .le 7, 3) := by decide +kernel
theorem dX0_isBetter_65 : decode cX0_isBetter 65 = .ok (.iconst 1, 1) := by decide +kernel
theorem dX0_isBetter_66 : decode cX0_isBetter 66 = .ok (.goto 4, 3) := by decide +kernel
theorem dX0_isBetter_69 : decode cX0_isBetter 69 = .ok (.iconst 0, 1) := by decide +kernel
theorem dX0_isBetter_70 : decode cX0_isBetter 70 = .ok (.ireturn, 1) := by decide +kernel
theorem dX0_isBetter_71 : decode cX0_isBetter 71 = .ok (.iload_n 1, 1) := by decide +kernel
theorem dX0_isBetter_72 : decode cX0_isBetter 72 = .ok (.iload_n 2, 1) := by decide +kernel
theorem dX0_isBetter_73 : decode cX0_isBetter 73 = .ok (.ixor, 1) := by decide +kernel
theorem dX0_isBetter_74 : decode cX0_isBetter 74 = .ok (.iconst 0, 1) := by decide +kernel
theorem dX0_isBetter_75 : decode cX0_isBetter 75 = .ok (.invokestatic 55, 3) := by decide +kernel
theorem dX0_isBetter_78 : decode cX0_isBetter 78 = .ok (.istore 7, 2) := by decide +kernel
theorem dX0_isBetter_80 : decode cX0_isBetter 80 = .ok (.iload 7, 2) := by decide +kernel
theorem dX0_isBetter_82 : decode cX0_isBetter 82 = .ok (.iconst (-1), 1) := by decide +kernel
theorem dX0_isBetter_83 : decode cX0_isBetter 83 = .ok (.if_icmp .eq 16, 3) := by decide +kernel
theorem dX0_isBetter_86 : decode cX0_isBetter 86 = .ok (.iload_n 1, 1) := by decide +kernel
theorem dX0_isBetter_87 : decode cX0_isBetter 87 = .ok (.iload 7, 2) := by decide +kernel
theorem dX0_isBetter_89 : decode cX0_isBetter 89 = .ok (.invokestatic 52, 3) := by decide +kernel
theorem dX0_isBetter_92 : decode cX0_isBetter 92 = .ok (.ifCond .eq 7, 3) := by decide +kernel
theorem dX0_isBetter_95 : decode cX0_isBetter 95 = .ok (.iconst 1, 1) := by decide +kernel
theorem dX0_isBetter_96 : decode cX0_isBetter 96 = .ok (.goto 4, 3) := by decide +kernel
theorem dX0_isBetter_99 : decode cX0_isBetter 99 = .ok (.iconst 0, 1) := by decide +kernel
theorem dX0_isBetter_100 : decode cX0_isBetter 100 = .ok (.ireturn, 1) := by decide +kernel
theorem dX0_explainsAll_0 : decode cX0_explainsAll 0 = .ok (.iconst 0, 1) := by decide +kernel
theorem dX0_explainsAll_1 : decode cX0_explainsAll 1 = .ok (.istore_n 2, 1) := by decide +kernel
theorem dX0_explainsAll_2 : decode cX0_explainsAll 2 = .ok (.iload_n 2, 1) := by decide +kernel
theorem dX0_explainsAll_3 : decode cX0_explainsAll 3 = .ok (.bipush 14, 2) := by decide +kernel
theorem dX0_explainsAll_5 : decode cX0_explainsAll 5 = .ok (.if_icmp .ge 35, 3) := by decide +kernel
theorem dX0_explainsAll_8 : decode cX0_explainsAll 8 = .ok (.aload_n 0, 1) := by decide +kernel
theorem dX0_explainsAll_9 : decode cX0_explainsAll 9 = .ok (.getfield 15, 3) := by decide +kernel
theorem dX0_explainsAll_12 : decode cX0_explainsAll 12 = .ok (.iload_n 2, 1) := by decide +kernel
theorem dX0_explainsAll_13 : decode cX0_explainsAll 13 = .ok (.invokestatic 52, 3) := by decide +kernel
theorem dX0_explainsAll_16 : decode cX0_explainsAll 16 = .ok (.ifCond .eq 18, 3) := by decide +kernel
theorem dX0_explainsAll_19 : decode cX0_explainsAll 19 = .ok (.aload_n 0, 1) := by decide +kernel
theorem dX0_explainsAll_20 : decode cX0_explainsAll 20 = .ok (.getfield 9, 3) := by decide +kernel
theorem dX0_explainsAll_23 : decode cX0_explainsAll 23 = .ok (.iload_n 2, 1) := by decide +kernel
theorem dX0_explainsAll_24 : decode cX0_explainsAll 24 = .ok (.invokevirtual 59, 3) := by decide +kernel
theorem dX0_explainsAll_27 : decode cX0_explainsAll 27 = .ok (.iload_n 1, 1) := by decide +kernel
theorem dX0_explainsAll_28 : decode cX0_explainsAll 28 = .ok (.iand, 1) := by decide +kernel
theorem dX0_explainsAll_29 : decode cX0_explainsAll 29 = .ok (.ifCond .ne 5, 3) := by decide +kernel
theorem dX0_explainsAll_32 : decode cX0_explainsAll 32 = .ok (.iconst 0, 1) := by decide +kernel
theorem dX0_explainsAll_33 : decode cX0_explainsAll 33 = .ok (.ireturn, 1) := by decide +kernel
theorem dX0_explainsAll_34 : decode cX0_explainsAll 34 = .ok (.iinc 2 1, 3) := by decide +kernel
theorem dX0_explainsAll_37 : decode cX0_explainsAll 37 = .ok (.goto (-35), 3) := by decide +kernel
theorem dX0_explainsAll_40 : decode cX0_explainsAll 40 = .ok (.iconst 1, 1) := by decide +kernel
theorem dX0_explainsAll_41 : decode cX0_explainsAll 41 = .ok (.ireturn, 1) := by decide +kernel
theorem dX0_plausibleOf_0 : decode cX0_plausibleOf 0 = .ok (.iload_n 1, 1) := by decide +kernel
theorem dX0_plausibleOf_1 : decode cX0_plausibleOf 1 = .ok (.istore_n 2, 1) := by decide +kernel
theorem dX0_plausibleOf_2 : decode cX0_plausibleOf 2 = .ok (.iconst 0, 1) := by decide +kernel
theorem dX0_plausibleOf_3 : decode cX0_plausibleOf 3 = .ok (.istore_n 3, 1) := by decide +kernel
theorem dX0_plausibleOf_4 : decode cX0_plausibleOf 4 = .ok (.iload_n 3, 1) := by decide +kernel
theorem dX0_plausibleOf_5 : decode cX0_plausibleOf 5 = .ok (.bipush 14, 2) := by decide +kernel
theorem dX0_plausibleOf_7 : decode cX0_plausibleOf 7 = .ok (.if_icmp .ge 37, 3) := by decide +kernel
theorem dX0_plausibleOf_10 : decode cX0_plausibleOf 10 = .ok (.aload_n 0, 1) := by decide +kernel
theorem dX0_plausibleOf_11 : decode cX0_plausibleOf 11 = .ok (.iload_n 3, 1) := by decide +kernel
theorem dX0_plausibleOf_12 : decode cX0_plausibleOf 12 = .ok (.invokevirtual 65, 3) := by decide +kernel
theorem dX0_plausibleOf_15 : decode cX0_plausibleOf 15 = .ok (.istore 4, 2) := by decide +kernel
theorem dX0_plausibleOf_17 : decode cX0_plausibleOf 17 = .ok (.iload 4, 2) := by decide +kernel
theorem dX0_plausibleOf_19 : decode cX0_plausibleOf 19 = .ok (.ifCond .eq 19, 3) := by decide +kernel
theorem dX0_plausibleOf_22 : decode cX0_plausibleOf 22 = .ok (.iload 4, 2) := by decide +kernel
theorem dX0_plausibleOf_24 : decode cX0_plausibleOf 24 = .ok (.iload_n 1, 1) := by decide +kernel
theorem dX0_plausibleOf_25 : decode cX0_plausibleOf 25 = .ok (.iconst (-1), 1) := by decide +kernel
theorem dX0_plausibleOf_26 : decode cX0_plausibleOf 26 = .ok (.ixor, 1) := by decide +kernel
theorem dX0_plausibleOf_27 : decode cX0_plausibleOf 27 = .ok (.iand, 1) := by decide +kernel
theorem dX0_plausibleOf_28 : decode cX0_plausibleOf 28 = .ok (.ifCond .ne 10, 3) := by decide +kernel
theorem dX0_plausibleOf_31 : decode cX0_plausibleOf 31 = .ok (.iload_n 2, 1) := by decide +kernel
theorem dX0_plausibleOf_32 : decode cX0_plausibleOf 32 = .ok (.iload_n 3, 1) := by decide +kernel
theorem dX0_plausibleOf_33 : decode cX0_plausibleOf 33 = .ok (.invokestatic 62, 3) := by decide +kernel
theorem dX0_plausibleOf_36 : decode cX0_plausibleOf 36 = .ok (.ior, 1) := by decide +kernel
theorem dX0_plausibleOf_37 : decode cX0_plausibleOf 37 = .ok (.istore_n 2, 1) := by decide +kernel
theorem dX0_plausibleOf_38 : decode cX0_plausibleOf 38 = .ok (.iinc 3 1, 3) := by decide +kernel
theorem dX0_plausibleOf_41 : decode cX0_plausibleOf 41 = .ok (.goto (-37), 3) := by decide +kernel
theorem dX0_plausibleOf_44 : decode cX0_plausibleOf 44 = .ok (.iload_n 2, 1) := by decide +kernel
theorem dX0_plausibleOf_45 : decode cX0_plausibleOf 45 = .ok (.ireturn, 1) := by decide +kernel
theorem dX1_init_0 : decode cX1_init 0 = .ok (.aload_n 0, 1) := by decide +kernel
theorem dX1_init_1 : decode cX1_init 1 = .ok (.invokespecial 3, 3) := by decide +kernel
theorem dX1_init_4 : decode cX1_init 4 = .ok (.aload_n 0, 1) := by decide +kernel
theorem dX1_init_5 : decode cX1_init 5 = .ok (.bipush 14, 2) := by decide +kernel
theorem dX1_init_7 : decode cX1_init 7 = .ok (.newarray .int, 2) := by decide +kernel
theorem dX1_init_9 : decode cX1_init 9 = .ok (.putfield 9, 3) := by decide +kernel
theorem dX1_init_12 : decode cX1_init 12 = .ok (.aload_n 0, 1) := by decide +kernel
theorem dX1_init_13 : decode cX1_init 13 = .ok (.bipush 14, 2) := by decide +kernel
theorem dX1_init_15 : decode cX1_init 15 = .ok (.newarray .int, 2) := by decide +kernel
theorem dX1_init_17 : decode cX1_init 17 = .ok (.putfield 15, 3) := by decide +kernel
theorem dX1_init_20 : decode cX1_init 20 = .ok (.aload_n 0, 1) := by decide +kernel
theorem dX1_init_21 : decode cX1_init 21 = .ok (.bipush 14, 2) := by decide +kernel
theorem dX1_init_23 : decode cX1_init 23 = .ok (.newarray .int, 2) := by decide +kernel
theorem dX1_init_25 : decode cX1_init 25 = .ok (.putfield 18, 3) := by decide +kernel
theorem dX1_init_28 : decode cX1_init 28 = .ok (.aload_n 0, 1) := by decide +kernel
theorem dX1_init_29 : decode cX1_init 29 = .ok (.bipush 14, 2) := by decide +kernel
theorem dX1_init_31 : decode cX1_init 31 = .ok (.newarray .int, 2) := by decide +kernel
theorem dX1_init_33 : decode cX1_init 33 = .ok (.putfield 21, 3) := by decide +kernel
theorem dX1_init_36 : decode cX1_init 36 = .ok (.return_, 1) := by decide +kernel
theorem dX1_needed_0 : decode cX1_needed 0 = .ok (.aload_n 0, 1) := by decide +kernel
theorem dX1_needed_1 : decode cX1_needed 1 = .ok (.getfield 9, 3) := by decide +kernel
theorem dX1_needed_4 : decode cX1_needed 4 = .ok (.iload_n 1, 1) := by decide +kernel
theorem dX1_needed_5 : decode cX1_needed 5 = .ok (.iaload, 1) := by decide +kernel
theorem dX1_needed_6 : decode cX1_needed 6 = .ok (.ireturn, 1) := by decide +kernel
theorem dX1_users_0 : decode cX1_users 0 = .ok (.aload_n 0, 1) := by decide +kernel
theorem dX1_users_1 : decode cX1_users 1 = .ok (.getfield 15, 3) := by decide +kernel
theorem dX1_users_4 : decode cX1_users 4 = .ok (.iload_n 1, 1) := by decide +kernel
theorem dX1_users_5 : decode cX1_users 5 = .ok (.iaload, 1) := by decide +kernel
theorem dX1_users_6 : decode cX1_users 6 = .ok (.ireturn, 1) := by decide +kernel
theorem dX1_below_0 : decode cX1_below 0 = .ok (.aload_n 0, 1) := by decide +kernel
theorem dX1_below_1 : decode cX1_below 1 = .ok (.getfield 18, 3) := by decide +kernel
theorem dX1_below_4 : decode cX1_below 4 = .ok (.iload_n 1, 1) := by decide +kernel
theorem dX1_below_5 : decode cX1_below 5 = .ok (.iaload, 1) := by decide +kernel
theorem dX1_below_6 : decode cX1_below 6 = .ok (.ireturn, 1) := by decide +kernel
theorem dX1_above_0 : decode cX1_above 0 = .ok (.aload_n 0, 1) := by decide +kernel
theorem dX1_above_1 : decode cX1_above 1 = .ok (.getfield 21, 3) := by decide +kernel
theorem dX1_above_4 : decode cX1_above 4 = .ok (.iload_n 1, 1) := by decide +kernel
theorem dX1_above_5 : decode cX1_above 5 = .ok (.iaload, 1) := by decide +kernel
theorem dX1_above_6 : decode cX1_above 6 = .ok (.ireturn, 1) := by decide +kernel
theorem dX1_explainersOf_0 : decode cX1_explainersOf 0 = .ok (.iload_n 1, 1) := by decide +kernel
theorem dX1_explainersOf_1 : decode cX1_explainersOf 1 = .ok (.invokestatic 24, 3) := by decide +kernel
theorem dX1_explainersOf_4 : decode cX1_explainersOf 4 = .ok (.aload_n 0, 1) := by decide +kernel
theorem dX1_explainersOf_5 : decode cX1_explainersOf 5 = .ok (.getfield 18, 3) := by decide +kernel
theorem dX1_explainersOf_8 : decode cX1_explainersOf 8 = .ok (.iload_n 1, 1) := by decide +kernel
theorem dX1_explainersOf_9 : decode cX1_explainersOf 9 = .ok (.iaload, 1) := by decide +kernel
theorem dX1_explainersOf_10 : decode cX1_explainersOf 10 = .ok (.ior, 1) := by decide +kernel
theorem dX1_explainersOf_11 : decode cX1_explainersOf 11 = .ok (.ireturn, 1) := by decide +kernel
theorem dX1_explainedBy_0 : decode cX1_explainedBy 0 = .ok (.iload_n 1, 1) := by decide +kernel
theorem dX1_explainedBy_1 : decode cX1_explainedBy 1 = .ok (.invokestatic 24, 3) := by decide +kernel
theorem dX1_explainedBy_4 : decode cX1_explainedBy 4 = .ok (.aload_n 0, 1) := by decide +kernel
theorem dX1_explainedBy_5 : decode cX1_explainedBy 5 = .ok (.getfield 21, 3) := by decide +kernel
theorem dX1_explainedBy_8 : decode cX1_explainedBy 8 = .ok (.iload_n 1, 1) := by decide +kernel
theorem dX1_explainedBy_9 : decode cX1_explainedBy 9 = .ok (.iaload, 1) := by decide +kernel
theorem dX1_explainedBy_10 : decode cX1_explainedBy 10 = .ok (.ior, 1) := by decide +kernel
theorem dX1_explainedBy_11 : decode cX1_explainedBy 11 = .ok (.ireturn, 1) := by decide +kernel
theorem dX1_link_0 : decode cX1_link 0 = .ok (.aload_n 0, 1) := by decide +kernel
theorem dX1_link_1 : decode cX1_link 1 = .ok (.getfield 9, 3) := by decide +kernel
theorem dX1_link_4 : decode cX1_link 4 = .ok (.iload_n 1, 1) := by decide +kernel
theorem dX1_link_5 : decode cX1_link 5 = .ok (.iaload, 1) := by decide +kernel
theorem dX1_link_6 : decode cX1_link 6 = .ok (.iload_n 2, 1) := by decide +kernel
theorem dX1_link_7 : decode cX1_link 7 = .ok (.invokestatic 28, 3) := by decide +kernel
theorem dX1_link_10 : decode cX1_link 10 = .ok (.ifCond .eq 5, 3) := by decide +kernel
theorem dX1_link_13 : decode cX1_link 13 = .ok (.iconst 0, 1) := by decide +kernel
theorem dX1_link_14 : decode cX1_link 14 = .ok (.ireturn, 1) := by decide +kernel
theorem dX1_link_15 : decode cX1_link 15 = .ok (.aload_n 0, 1) := by decide +kernel
theorem dX1_link_16 : decode cX1_link 16 = .ok (.getfield 9, 3) := by decide +kernel
theorem dX1_link_19 : decode cX1_link 19 = .ok (.iload_n 1, 1) := by decide +kernel
theorem dX1_link_20 : decode cX1_link 20 = .ok (.dup2, 1) := by decide +kernel
theorem dX1_link_21 : decode cX1_link 21 = .ok (.iaload, 1) := by decide +kernel
theorem dX1_link_22 : decode cX1_link 22 = .ok (.iload_n 2, 1) := by decide +kernel
theorem dX1_link_23 : decode cX1_link 23 = .ok (.invokestatic 24, 3) := by decide +kernel
theorem dX1_link_26 : decode cX1_link 26 = .ok (.ior, 1) := by decide +kernel
theorem dX1_link_27 : decode cX1_link 27 = .ok (.iastore, 1) := by decide +kernel
theorem dX1_link_28 : decode cX1_link 28 = .ok (.aload_n 0, 1) := by decide +kernel
theorem dX1_link_29 : decode cX1_link 29 = .ok (.getfield 15, 3) := by decide +kernel
theorem dX1_link_32 : decode cX1_link 32 = .ok (.iload_n 2, 1) := by decide +kernel
theorem dX1_link_33 : decode cX1_link 33 = .ok (.dup2, 1) := by decide +kernel
theorem dX1_link_34 : decode cX1_link 34 = .ok (.iaload, 1) := by decide +kernel
theorem dX1_link_35 : decode cX1_link 35 = .ok (.iload_n 1, 1) := by decide +kernel
theorem dX1_link_36 : decode cX1_link 36 = .ok (.invokestatic 24, 3) := by decide +kernel
theorem dX1_link_39 : decode cX1_link 39 = .ok (.ior, 1) := by decide +kernel
theorem dX1_link_40 : decode cX1_link 40 = .ok (.iastore, 1) := by decide +kernel
theorem dX1_link_41 : decode cX1_link 41 = .ok (.aload_n 0, 1) := by decide +kernel
theorem dX1_link_42 : decode cX1_link 42 = .ok (.invokevirtual 32, 3) := by decide +kernel
theorem dX1_link_45 : decode cX1_link 45 = .ok (.iconst 1, 1) := by decide +kernel
theorem dX1_link_46 : decode cX1_link 46 = .ok (.ireturn, 1) := by decide +kernel
theorem dX1_unlink_0 : decode cX1_unlink 0 = .ok (.aload_n 0, 1) := by decide +kernel
theorem dX1_unlink_1 : decode cX1_unlink 1 = .ok (.getfield 9, 3) := by decide +kernel
theorem dX1_unlink_4 : decode cX1_unlink 4 = .ok (.iload_n 1, 1) := by decide +kernel
theorem dX1_unlink_5 : decode cX1_unlink 5 = .ok (.iaload, 1) := by decide +kernel
theorem dX1_unlink_6 : decode cX1_unlink 6 = .ok (.iload_n 2, 1) := by decide +kernel
theorem dX1_unlink_7 : decode cX1_unlink 7 = .ok (.invokestatic 28, 3) := by decide +kernel
theorem dX1_unlink_10 : decode cX1_unlink 10 = .ok (.ifCond .ne 5, 3) := by decide +kernel
theorem dX1_unlink_13 : decode cX1_unlink 13 = .ok (.iconst 0, 1) := by decide +kernel
theorem dX1_unlink_14 : decode cX1_unlink 14 = .ok (.ireturn, 1) := by decide +kernel
theorem dX1_unlink_15 : decode cX1_unlink 15 = .ok (.aload_n 0, 1) := by decide +kernel
theorem dX1_unlink_16 : decode cX1_unlink 16 = .ok (.getfield 9, 3) := by decide +kernel
theorem dX1_unlink_19 : decode cX1_unlink 19 = .ok (.iload_n 1, 1) := by decide +kernel
theorem dX1_unlink_20 : decode cX1_unlink 20 = .ok (.dup2, 1) := by decide +kernel
theorem dX1_unlink_21 : decode cX1_unlink 21 = .ok (.iaload, 1) := by decide +kernel
theorem dX1_unlink_22 : decode cX1_unlink 22 = .ok (.iload_n 2, 1) := by decide +kernel
theorem dX1_unlink_23 : decode cX1_unlink 23 = .ok (.invokestatic 24, 3) := by decide +kernel
theorem dX1_unlink_26 : decode cX1_unlink 26 = .ok (.iconst (-1), 1) := by decide +kernel
theorem dX1_unlink_27 : decode cX1_unlink 27 = .ok (.ixor, 1) := by decide +kernel
theorem dX1_unlink_28 : decode cX1_unlink 28 = .ok (.iand, 1) := by decide +kernel
theorem dX1_unlink_29 : decode cX1_unlink 29 = .ok (.iastore, 1) := by decide +kernel
theorem dX1_unlink_30 : decode cX1_unlink 30 = .ok (.aload_n 0, 1) := by decide +kernel
theorem dX1_unlink_31 : decode cX1_unlink 31 = .ok (.getfield 15, 3) := by decide +kernel
theorem dX1_unlink_34 : decode cX1_unlink 34 = .ok (.iload_n 2, 1) := by decide +kernel
theorem dX1_unlink_35 : decode cX1_unlink 35 = .ok (.dup2, 1) := by decide +kernel
theorem dX1_unlink_36 : decode cX1_unlink 36 = .ok (.iaload, 1) := by decide +kernel
theorem dX1_unlink_37 : decode cX1_unlink 37 = .ok (.iload_n 1, 1) := by decide +kernel
theorem dX1_unlink_38 : decode cX1_unlink 38 = .ok (.invokestatic 24, 3) := by decide +kernel
theorem dX1_unlink_41 : decode cX1_unlink 41 = .ok (.iconst (-1), 1) := by decide +kernel
theorem dX1_unlink_42 : decode cX1_unlink 42 = .ok (.ixor, 1) := by decide +kernel
theorem dX1_unlink_43 : decode cX1_unlink 43 = .ok (.iand, 1) := by decide +kernel
theorem dX1_unlink_44 : decode cX1_unlink 44 = .ok (.iastore, 1) := by decide +kernel
theorem dX1_unlink_45 : decode cX1_unlink 45 = .ok (.aload_n 0, 1) := by decide +kernel
theorem dX1_unlink_46 : decode cX1_unlink 46 = .ok (.invokevirtual 32, 3) := by decide +kernel
theorem dX1_unlink_49 : decode cX1_unlink 49 = .ok (.iconst 1, 1) := by decide +kernel
theorem dX1_unlink_50 : decode cX1_unlink 50 = .ok (.ireturn, 1) := by decide +kernel
theorem dX1_longestWayDown_0 : decode cX1_longestWayDown 0 = .ok (.iconst 0, 1) := by decide +kernel
theorem dX1_longestWayDown_1 : decode cX1_longestWayDown 1 = .ok (.istore_n 2, 1) := by decide +kernel
theorem dX1_longestWayDown_2 : decode cX1_longestWayDown 2 = .ok (.aload_n 0, 1) := by decide +kernel
theorem dX1_longestWayDown_3 : decode cX1_longestWayDown 3 = .ok (.getfield 9, 3) := by decide +kernel
theorem dX1_longestWayDown_6 : decode cX1_longestWayDown 6 = .ok (.iload_n 1, 1) := by decide +kernel
theorem dX1_longestWayDown_7 : decode cX1_longestWayDown 7 = .ok (.invokestatic 24, 3) := by decide +kernel
theorem dX1_longestWayDown_10 : decode cX1_longestWayDown 10 = .ok (.invokestatic 35, 3) := by decide +kernel
theorem dX1_longestWayDown_13 : decode cX1_longestWayDown 13 = .ok (.istore_n 3, 1) := by decide +kernel
theorem dX1_longestWayDown_14 : decode cX1_longestWayDown 14 = .ok (.iload_n 3, 1) := by decide +kernel
theorem dX1_longestWayDown_15 : decode cX1_longestWayDown 15 = .ok (.ifCond .eq 24, 3) := by decide +kernel
theorem dX1_longestWayDown_18 : decode cX1_longestWayDown 18 = .ok (.iload_n 2, 1) := by decide +kernel
theorem dX1_longestWayDown_19 : decode cX1_longestWayDown 19 = .ok (.bipush 14, 2) := by decide +kernel
theorem dX1_longestWayDown_21 : decode cX1_longestWayDown 21 = .ok (.if_icmp .ge 18, 3) := by decide +kernel
theorem dX1_longestWayDown_24 : decode cX1_longestWayDown 24 = .ok (.iinc 2 1, 3) := by decide +kernel
theorem dX1_longestWayDown_27 : decode cX1_longestWayDown 27 = .ok (.aload_n 0, 1) := by decide +kernel
theorem dX1_longestWayDown_28 : decode cX1_longestWayDown 28 = .ok (.getfield 9, 3) := by decide +kernel
theorem dX1_longestWayDown_31 : decode cX1_longestWayDown 31 = .ok (.iload_n 3, 1) := by decide +kernel
theorem dX1_longestWayDown_32 : decode cX1_longestWayDown 32 = .ok (.invokestatic 35, 3) := by decide +kernel
theorem dX1_longestWayDown_35 : decode cX1_longestWayDown 35 = .ok (.istore_n 3, 1) := by decide +kernel
theorem dX1_longestWayDown_36 : decode cX1_longestWayDown 36 = .ok (.goto (-22), 3) := by decide +kernel
theorem dX1_longestWayDown_39 : decode cX1_longestWayDown 39 = .ok (.iload_n 2, 1) := by decide +kernel
theorem dX1_longestWayDown_40 : decode cX1_longestWayDown 40 = .ok (.ireturn, 1) := by decide +kernel
theorem dX1_followAll_0 : decode cX1_followAll 0 = .ok (.iconst 0, 1) := by decide +kernel
theorem dX1_followAll_1 : decode cX1_followAll 1 = .ok (.istore_n 1, 1) := by decide +kernel
theorem dX1_followAll_2 : decode cX1_followAll 2 = .ok (.iload_n 1, 1) := by decide +kernel
theorem dX1_followAll_3 : decode cX1_followAll 3 = .ok (.bipush 14, 2) := by decide +kernel
theorem dX1_followAll_5 : decode cX1_followAll 5 = .ok (.if_icmp .ge 37, 3) := by decide +kernel
theorem dX1_followAll_8 : decode cX1_followAll 8 = .ok (.aload_n 0, 1) := by decide +kernel
theorem dX1_followAll_9 : decode cX1_followAll 9 = .ok (.getfield 18, 3) := by decide +kernel
theorem dX1_followAll_12 : decode cX1_followAll 12 = .ok (.iload_n 1, 1) := by decide +kernel
theorem dX1_followAll_13 : decode cX1_followAll 13 = .ok (.aload_n 0, 1) := by decide +kernel
theorem dX1_followAll_14 : decode cX1_followAll 14 = .ok (.getfield 9, 3) := by decide +kernel
theorem dX1_followAll_17 : decode cX1_followAll 17 = .ok (.iload_n 1, 1) := by decide +kernel
theorem dX1_followAll_18 : decode cX1_followAll 18 = .ok (.invokestatic 39, 3) := by decide +kernel
theorem dX1_followAll_21 : decode cX1_followAll 21 = .ok (.iastore, 1) := by decide +kernel
theorem dX1_followAll_22 : decode cX1_followAll 22 = .ok (.aload_n 0, 1) := by decide +kernel
theorem dX1_followAll_23 : decode cX1_followAll 23 = .ok (.getfield 21, 3) := by decide +kernel
theorem dX1_followAll_26 : decode cX1_followAll 26 = .ok (.iload_n 1, 1) := by decide +kernel
theorem dX1_followAll_27 : decode cX1_followAll 27 = .ok (.aload_n 0, 1) := by decide +kernel
theorem dX1_followAll_28 : decode cX1_followAll 28 = .ok (.getfield 15, 3) := by decide +kernel
theorem dX1_followAll_31 : decode cX1_followAll 31 = .ok (.iload_n 1, 1) := by decide +kernel
theorem dX1_followAll_32 : decode cX1_followAll 32 = .ok (.invokestatic 39, 3) := by decide +kernel
theorem dX1_followAll_35 : decode cX1_followAll 35 = .ok (.iastore, 1) := by decide +kernel
theorem dX1_followAll_36 : decode cX1_followAll 36 = .ok (.iinc 1 1, 3) := by decide +kernel
theorem dX1_followAll_39 : decode cX1_followAll 39 = .ok (.goto (-37), 3) := by decide +kernel
theorem dX1_followAll_42 : decode cX1_followAll 42 = .ok (.return_, 1) := by decide +kernel
theorem dX1_follow_0 : decode cX1_follow 0 = .ok (.iconst 0, 1) := by decide +kernel
theorem dX1_follow_1 : decode cX1_follow 1 = .ok (.istore_n 2, 1) := by decide +kernel
theorem dX1_follow_2 : decode cX1_follow 2 = .ok (.iload_n 1, 1) := by decide +kernel
theorem dX1_follow_3 : decode cX1_follow 3 = .ok (.invokestatic 24, 3) := by decide +kernel
theorem dX1_follow_6 : decode cX1_follow 6 = .ok (.istore_n 3, 1) := by decide +kernel
theorem dX1_follow_7 : decode cX1_follow 7 = .ok (.iconst 0, 1) := by decide +kernel
theorem dX1_follow_8 : decode cX1_follow 8 = .ok (.istore 4, 2) := by decide +kernel
theorem dX1_follow_10 : decode cX1_follow 10 = .ok (.iload 4, 2) := by decide +kernel
theorem dX1_follow_12 : decode cX1_follow 12 = .ok (.bipush 14, 2) := by decide +kernel
theorem dX1_follow_14 : decode cX1_follow 14 = .ok (.if_icmp .ge 23, 3) := by decide +kernel
theorem dX1_follow_17 : decode cX1_follow 17 = .ok (.iload_n 3, 1) := by decide +kernel
theorem dX1_follow_18 : decode cX1_follow 18 = .ok (.ifCond .eq 19, 3) := by decide +kernel
theorem dX1_follow_21 : decode cX1_follow 21 = .ok (.aload_n 0, 1) := by decide +kernel
theorem dX1_follow_22 : decode cX1_follow 22 = .ok (.iload_n 3, 1) := by decide +kernel
theorem dX1_follow_23 : decode cX1_follow 23 = .ok (.invokestatic 35, 3) := by decide +kernel
theorem dX1_follow_26 : decode cX1_follow 26 = .ok (.istore_n 3, 1) := by decide +kernel
theorem dX1_follow_27 : decode cX1_follow 27 = .ok (.iload_n 2, 1) := by decide +kernel
theorem dX1_follow_28 : decode cX1_follow 28 = .ok (.iload_n 3, 1) := by decide +kernel
theorem dX1_follow_29 : decode cX1_follow 29 = .ok (.ior, 1) := by decide +kernel
theorem dX1_follow_30 : decode cX1_follow 30 = .ok (.istore_n 2, 1) := by decide +kernel
theorem dX1_follow_31 : decode cX1_follow 31 = .ok (.iinc 4 1, 3) := by decide +kernel
theorem dX1_follow_34 : decode cX1_follow 34 = .ok (.goto (-24), 3) := by decide +kernel
theorem dX1_follow_37 : decode cX1_follow 37 = .ok (.iload_n 2, 1) := by decide +kernel
theorem dX1_follow_38 : decode cX1_follow 38 = .ok (.ireturn, 1) := by decide +kernel
theorem dX1_step_0 : decode cX1_step 0 = .ok (.iconst 0, 1) := by decide +kernel
theorem dX1_step_1 : decode cX1_step 1 = .ok (.istore_n 2, 1) := by decide +kernel
theorem dX1_step_2 : decode cX1_step 2 = .ok (.iconst 0, 1) := by decide +kernel
theorem dX1_step_3 : decode cX1_step 3 = .ok (.istore_n 3, 1) := by decide +kernel
theorem dX1_step_4 : decode cX1_step 4 = .ok (.iload_n 3, 1) := by decide +kernel
theorem dX1_step_5 : decode cX1_step 5 = .ok (.bipush 14, 2) := by decide +kernel
theorem dX1_step_7 : decode cX1_step 7 = .ok (.if_icmp .ge 23, 3) := by decide +kernel
theorem dX1_step_10 : decode cX1_step 10 = .ok (.iload_n 1, 1) := by decide +kernel
theorem dX1_step_11 : decode cX1_step 11 = .ok (.iload_n 3, 1) := by decide +kernel
theorem dX1_step_12 : decode cX1_step 12 = .ok (.invokestatic 28, 3) := by decide +kernel
theorem dX1_step_15 : decode cX1_step 15 = .ok (.ifCond .eq 9, 3) := by decide +kernel
theorem dX1_step_18 : decode cX1_step 18 = .ok (.iload_n 2, 1) := by decide +kernel
theorem dX1_step_19 : decode cX1_step 19 = .ok (.aload_n 0, 1) := by decide +kernel
theorem dX1_step_20 : decode cX1_step 20 = .ok (.iload_n 3, 1) := by decide +kernel
theorem dX1_step_21 : decode cX1_step 21 = .ok (.iaload, 1) := by decide +kernel
theorem dX1_step_22 : decode cX1_step 22 = .ok (.ior, 1) := by decide +kernel
theorem dX1_step_23 : decode cX1_step 23 = .ok (.istore_n 2, 1) := by decide +kernel
theorem dX1_step_24 : decode cX1_step 24 = .ok (.iinc 3 1, 3) := by decide +kernel
theorem dX1_step_27 : decode cX1_step 27 = .ok (.goto (-23), 3) := by decide +kernel
theorem dX1_step_30 : decode cX1_step 30 = .ok (.iload_n 2, 1) := by decide +kernel
theorem dX1_step_31 : decode cX1_step 31 = .ok (.ireturn, 1) := by decide +kernel
theorem dX2_init_0 : decode cX2_init 0 = .ok (.aload_n 0, 1) := by decide +kernel
theorem dX2_init_1 : decode cX2_init 1 = .ok (.invokespecial 3, 3) := by decide +kernel
theorem dX2_init_4 : decode cX2_init 4 = .ok (.aload_n 0, 1) := by decide +kernel
theorem dX2_init_5 : decode cX2_init 5 = .ok (.sipush 300, 3) := by decide +kernel
theorem dX2_init_8 : decode cX2_init 8 = .ok (.newarray .int, 2) := by decide +kernel
theorem dX2_init_10 : decode cX2_init 10 = .ok (.putfield 9, 3) := by decide +kernel
theorem dX2_init_13 : decode cX2_init 13 = .ok (.aload_n 0, 1) := by decide +kernel
theorem dX2_init_14 : decode cX2_init 14 = .ok (.sipush 300, 3) := by decide +kernel
theorem dX2_init_17 : decode cX2_init 17 = .ok (.newarray .int, 2) := by decide +kernel
theorem dX2_init_19 : decode cX2_init 19 = .ok (.putfield 15, 3) := by decide +kernel
theorem dX2_init_22 : decode cX2_init 22 = .ok (.aload_n 0, 1) := by decide +kernel
theorem dX2_init_23 : decode cX2_init 23 = .ok (.sipush 300, 3) := by decide +kernel
theorem dX2_init_26 : decode cX2_init 26 = .ok (.newarray .int, 2) := by decide +kernel
theorem dX2_init_28 : decode cX2_init 28 = .ok (.putfield 18, 3) := by decide +kernel
theorem dX2_init_31 : decode cX2_init 31 = .ok (.aload_n 0, 1) := by decide +kernel
theorem dX2_init_32 : decode cX2_init 32 = .ok (.sipush 300, 3) := by decide +kernel
theorem dX2_init_35 : decode cX2_init 35 = .ok (.newarray .int, 2) := by decide +kernel
theorem dX2_init_37 : decode cX2_init 37 = .ok (.putfield 21, 3) := by decide +kernel
theorem dX2_init_40 : decode cX2_init 40 = .ok (.aload_n 0, 1) := by decide +kernel
theorem dX2_init_41 : decode cX2_init 41 = .ok (.bipush 14, 2) := by decide +kernel
theorem dX2_init_43 : decode cX2_init 43 = .ok (.newarray .int, 2) := by decide +kernel
theorem dX2_init_45 : decode cX2_init 45 = .ok (.putfield 24, 3) := by decide +kernel
theorem dX2_init_48 : decode cX2_init 48 = .ok (.aload_n 0, 1) := by decide +kernel
theorem dX2_init_49 : decode cX2_init 49 = .ok (.iconst 0, 1) := by decide +kernel
theorem dX2_init_50 : decode cX2_init 50 = .ok (.putfield 27, 3) := by decide +kernel
theorem dX2_init_53 : decode cX2_init 53 = .ok (.return_, 1) := by decide +kernel
theorem dX2_isFull_0 : decode cX2_isFull 0 = .ok (.aload_n 0, 1) := by decide +kernel
theorem dX2_isFull_1 : decode cX2_isFull 1 = .ok (.getfield 27, 3) := by decide +kernel
theorem dX2_isFull_4 : decode cX2_isFull 4 = .ok (.sipush 300, 3) := by decide +kernel
theorem dX2_isFull_7 : decode cX2_isFull 7 = .ok (.if_icmp .lt 7, 3) := by decide +kernel
theorem dX2_isFull_10 : decode cX2_isFull 10 = .ok (.iconst 1, 1) := by decide +kernel
theorem dX2_isFull_11 : decode cX2_isFull 11 = .ok (.goto 4, 3) := by decide +kernel
theorem dX2_isFull_14 : decode cX2_isFull 14 = .ok (.iconst 0, 1) := by decide +kernel
theorem dX2_isFull_15 : decode cX2_isFull 15 = .ok (.ireturn, 1) := by decide +kernel
theorem dX2_count_0 : decode cX2_count 0 = .ok (.aload_n 0, 1) := by decide +kernel
theorem dX2_count_1 : decode cX2_count 1 = .ok (.getfield 27, 3) := by decide +kernel
theorem dX2_count_4 : decode cX2_count 4 = .ok (.ireturn, 1) := by decide +kernel
theorem dX2_kindAt_0 : decode cX2_kindAt 0 = .ok (.aload_n 0, 1) := by decide +kernel
theorem dX2_kindAt_1 : decode cX2_kindAt 1 = .ok (.getfield 9, 3) := by decide +kernel
theorem dX2_kindAt_4 : decode cX2_kindAt 4 = .ok (.iload_n 1, 1) := by decide +kernel
theorem dX2_kindAt_5 : decode cX2_kindAt 5 = .ok (.iaload, 1) := by decide +kernel
theorem dX2_kindAt_6 : decode cX2_kindAt 6 = .ok (.ireturn, 1) := by decide +kernel
theorem dX2_nodeAt_0 : decode cX2_nodeAt 0 = .ok (.aload_n 0, 1) := by decide +kernel
theorem dX2_nodeAt_1 : decode cX2_nodeAt 1 = .ok (.getfield 15, 3) := by decide +kernel
theorem dX2_nodeAt_4 : decode cX2_nodeAt 4 = .ok (.iload_n 1, 1) := by decide +kernel
theorem dX2_nodeAt_5 : decode cX2_nodeAt 5 = .ok (.iaload, 1) := by decide +kernel
theorem dX2_nodeAt_6 : decode cX2_nodeAt 6 = .ok (.ireturn, 1) := by decide +kernel
theorem dX2_timeAt_0 : decode cX2_timeAt 0 = .ok (.aload_n 0, 1) := by decide +kernel
theorem dX2_timeAt_1 : decode cX2_timeAt 1 = .ok (.getfield 18, 3) := by decide +kernel
theorem dX2_timeAt_4 : decode cX2_timeAt 4 = .ok (.iload_n 1, 1) := by decide +kernel
theorem dX2_timeAt_5 : decode cX2_timeAt 5 = .ok (.iaload, 1) := by decide +kernel
theorem dX2_timeAt_6 : decode cX2_timeAt 6 = .ok (.ireturn, 1) := by decide +kernel
theorem dX2_lengthAt_0 : decode cX2_lengthAt 0 = .ok (.aload_n 0, 1) := by decide +kernel
theorem dX2_lengthAt_1 : decode cX2_lengthAt 1 = .ok (.getfield 21, 3) := by decide +kernel
theorem dX2_lengthAt_4 : decode cX2_lengthAt 4 = .ok (.iload_n 1, 1) := by decide +kernel
theorem dX2_lengthAt_5 : decode cX2_lengthAt 5 = .ok (.iaload, 1) := by decide +kernel
theorem dX2_lengthAt_6 : decode cX2_lengthAt 6 = .ok (.ireturn, 1) := by decide +kernel
theorem dX2_addRaise_0 : decode cX2_addRaise 0 = .ok (.aload_n 0, 1) := by decide +kernel
theorem dX2_addRaise_1 : decode cX2_addRaise 1 = .ok (.getfield 24, 3) := by decide +kernel
theorem dX2_addRaise_4 : decode cX2_addRaise 4 = .ok (.iload_n 1, 1) := by decide +kernel
theorem dX2_addRaise_5 : decode cX2_addRaise 5 = .ok (.iload_n 2, 1) := by decide +kernel
theorem dX2_addRaise_6 : decode cX2_addRaise 6 = .ok (.iastore, 1) := by decide +kernel
theorem dX2_addRaise_7 : decode cX2_addRaise 7 = .ok (.aload_n 0, 1) := by decide +kernel
theorem dX2_addRaise_8 : decode cX2_addRaise 8 = .ok (.iconst 0, 1) := by decide +kernel
theorem dX2_addRaise_9 : decode cX2_addRaise 9 = .ok (.iload_n 1, 1) := by decide +kernel
theorem dX2_addRaise_10 : decode cX2_addRaise 10 = .ok (.iload_n 2, 1) := by decide +kernel
theorem dX2_addRaise_11 : decode cX2_addRaise 11 = .ok (.iconst (-1), 1) := by decide +kernel
theorem dX2_addRaise_12 : decode cX2_addRaise 12 = .ok (.invokevirtual 31, 3) := by decide +kernel
theorem dX2_addRaise_15 : decode cX2_addRaise 15 = .ok (.return_, 1) := by decide +kernel
theorem dX2_addClear_0 : decode cX2_addClear 0 = .ok (.aload_n 0, 1) := by decide +kernel
theorem dX2_addClear_1 : decode cX2_addClear 1 = .ok (.iconst 1, 1) := by decide +kernel
theorem dX2_addClear_2 : decode cX2_addClear 2 = .ok (.iload_n 1, 1) := by decide +kernel
theorem dX2_addClear_3 : decode cX2_addClear 3 = .ok (.iload_n 2, 1) := by decide +kernel
theorem dX2_addClear_4 : decode cX2_addClear 4 = .ok (.iload_n 2, 1) := by decide +kernel
theorem dX2_addClear_5 : decode cX2_addClear 5 = .ok (.aload_n 0, 1) := by decide +kernel
theorem dX2_addClear_6 : decode cX2_addClear 6 = .ok (.getfield 24, 3) := by decide +kernel
theorem dX2_addClear_9 : decode cX2_addClear 9 = .ok (.iload_n 1, 1) := by decide +kernel
theorem dX2_addClear_10 : decode cX2_addClear 10 = .ok (.iaload, 1) := by decide +kernel
theorem dX2_addClear_11 : decode cX2_addClear 11 = .ok (.isub, 1) := by decide +kernel
theorem dX2_addClear_12 : decode cX2_addClear 12 = .ok (.invokevirtual 31, 3) := by decide +kernel
theorem dX2_addClear_15 : decode cX2_addClear 15 = .ok (.return_, 1) := by decide +kernel
theorem dX2_raisesAfter_0 : decode cX2_raisesAfter 0 = .ok (.iconst 0, 1) := by decide +kernel
theorem dX2_raisesAfter_1 : decode cX2_raisesAfter 1 = .ok (.istore_n 3, 1) := by decide +kernel
theorem dX2_raisesAfter_2 : decode cX2_raisesAfter 2 = .ok (.iconst 0, 1) := by decide +kernel
theorem dX2_raisesAfter_3 : decode cX2_raisesAfter 3 = .ok (.istore 4, 2) := by decide +kernel
theorem dX2_raisesAfter_5 : decode cX2_raisesAfter 5 = .ok (.iload 4, 2) := by decide +kernel
theorem dX2_raisesAfter_7 : decode cX2_raisesAfter 7 = .ok (.aload_n 0, 1) := by decide +kernel
theorem dX2_raisesAfter_8 : decode cX2_raisesAfter 8 = .ok (.getfield 27, 3) := by decide +kernel
theorem dX2_raisesAfter_11 : decode cX2_raisesAfter 11 = .ok (.if_icmp .ge 44, 3) := by decide +kernel
theorem dX2_raisesAfter_14 : decode cX2_raisesAfter 14 = .ok (.aload_n 0, 1) := by decide +kernel
theorem dX2_raisesAfter_15 : decode cX2_raisesAfter 15 = .ok (.getfield 9, 3) := by decide +kernel
theorem dX2_raisesAfter_18 : decode cX2_raisesAfter 18 = .ok (.iload 4, 2) := by decide +kernel
theorem dX2_raisesAfter_20 : decode cX2_raisesAfter 20 = .ok (.iaload, 1) := by decide +kernel
theorem dX2_raisesAfter_21 : decode cX2_raisesAfter 21 = .ok (.ifCond .ne 28, 3) := by decide +kernel
theorem dX2_raisesAfter_24 : decode cX2_raisesAfter 24 = .ok (.aload_n 0, 1) := by decide +kernel
theorem dX2_raisesAfter_25 : decode cX2_raisesAfter 25 = .ok (.getfield 15, 3) := by decide +kernel
theorem dX2_raisesAfter_28 : decode cX2_raisesAfter 28 = .ok (.iload 4, 2) := by decide +kernel
theorem dX2_raisesAfter_30 : decode cX2_raisesAfter 30 = .ok (.iaload, 1) := by decide +kernel
theorem dX2_raisesAfter_31 : decode cX2_raisesAfter 31 = .ok (.iload_n 1, 1) := by decide +kernel
theorem dX2_raisesAfter_32 : decode cX2_raisesAfter 32 = .ok (.if_icmp .ne 17, 3) := by decide +kernel
theorem dX2_raisesAfter_35 : decode cX2_raisesAfter 35 = .ok (.aload_n 0, 1) := by decide +kernel
theorem dX2_raisesAfter_36 : decode cX2_raisesAfter 36 = .ok (.getfield 18, 3) := by decide +kernel
theorem dX2_raisesAfter_39 : decode cX2_raisesAfter 39 = .ok (.iload 4, 2) := by decide +kernel
theorem dX2_raisesAfter_41 : decode cX2_raisesAfter 41 = .ok (.iaload, 1) := by decide +kernel
theorem dX2_raisesAfter_42 : decode cX2_raisesAfter 42 = .ok (.iload_n 2, 1) := by decide +kernel
theorem dX2_raisesAfter_43 : decode cX2_raisesAfter 43 = .ok (.if_icmp .le 6, 3) := by decide +kernel
theorem dX2_raisesAfter_46 : decode cX2_raisesAfter 46 = .ok (.iinc 3 1, 3) := by decide +kernel
theorem dX2_raisesAfter_49 : decode cX2_raisesAfter 49 = .ok (.iinc 4 1, 3) := by decide +kernel
theorem dX2_raisesAfter_52 : decode cX2_raisesAfter 52 = .ok (.goto (-47), 3) := by decide +kernel
theorem dX2_raisesAfter_55 : decode cX2_raisesAfter 55 = .ok (.iload_n 3, 1) := by decide +kernel
theorem dX2_raisesAfter_56 : decode cX2_raisesAfter 56 = .ok (.ireturn, 1) := by decide +kernel
theorem dX2_add_0 : decode cX2_add 0 = .ok (.aload_n 0, 1) := by decide +kernel
theorem dX2_add_1 : decode cX2_add 1 = .ok (.getfield 9, 3) := by decide +kernel
theorem dX2_add_4 : decode cX2_add 4 = .ok (.aload_n 0, 1) := by decide +kernel
theorem dX2_add_5 : decode cX2_add 5 = .ok (.getfield 27, 3) := by decide +kernel
theorem dX2_add_8 : decode cX2_add 8 = .ok (.iload_n 1, 1) := by decide +kernel
theorem dX2_add_9 : decode cX2_add 9 = .ok (.iastore, 1) := by decide +kernel
theorem dX2_add_10 : decode cX2_add 10 = .ok (.aload_n 0, 1) := by decide +kernel
theorem dX2_add_11 : decode cX2_add 11 = .ok (.getfield 15, 3) := by decide +kernel
theorem dX2_add_14 : decode cX2_add 14 = .ok (.aload_n 0, 1) := by decide +kernel
theorem dX2_add_15 : decode cX2_add 15 = .ok (.getfield 27, 3) := by decide +kernel
theorem dX2_add_18 : decode cX2_add 18 = .ok (.iload_n 2, 1) := by decide +kernel
theorem dX2_add_19 : decode cX2_add 19 = .ok (.iastore, 1) := by decide +kernel
theorem dX2_add_20 : decode cX2_add 20 = .ok (.aload_n 0, 1) := by decide +kernel
theorem dX2_add_21 : decode cX2_add 21 = .ok (.getfield 18, 3) := by decide +kernel
theorem dX2_add_24 : decode cX2_add 24 = .ok (.aload_n 0, 1) := by decide +kernel
theorem dX2_add_25 : decode cX2_add 25 = .ok (.getfield 27, 3) := by decide +kernel
theorem dX2_add_28 : decode cX2_add 28 = .ok (.iload_n 3, 1) := by decide +kernel
theorem dX2_add_29 : decode cX2_add 29 = .ok (.iastore, 1) := by decide +kernel
theorem dX2_add_30 : decode cX2_add 30 = .ok (.aload_n 0, 1) := by decide +kernel
theorem dX2_add_31 : decode cX2_add 31 = .ok (.getfield 21, 3) := by decide +kernel
theorem dX2_add_34 : decode cX2_add 34 = .ok (.aload_n 0, 1) := by decide +kernel
theorem dX2_add_35 : decode cX2_add 35 = .ok (.getfield 27, 3) := by decide +kernel
theorem dX2_add_38 : decode cX2_add 38 = .ok (.iload 4, 2) := by decide +kernel
theorem dX2_add_40 : decode cX2_add 40 = .ok (.iastore, 1) := by decide +kernel
theorem dX2_add_41 : decode cX2_add 41 = .ok (.aload_n 0, 1) := by decide +kernel
theorem dX2_add_42 : decode cX2_add 42 = .ok (.dup, 1) := by decide +kernel
theorem dX2_add_43 : decode cX2_add 43 = .ok (.getfield 27, 3) := by decide +kernel
theorem dX2_add_46 : decode cX2_add 46 = .ok (.iconst 1, 1) := by decide +kernel
theorem dX2_add_47 : decode cX2_add 47 = .ok (.iadd, 1) := by decide +kernel
theorem dX2_add_48 : decode cX2_add 48 = .ok (.putfield 27, 3) := by decide +kernel
theorem dX2_add_51 : decode cX2_add 51 = .ok (.return_, 1) := by decide +kernel
theorem dX3_init_0 : decode cX3_init 0 = .ok (.aload_n 0, 1) := by decide +kernel
theorem dX3_init_1 : decode cX3_init 1 = .ok (.invokespecial 3, 3) := by decide +kernel
theorem dX3_init_4 : decode cX3_init 4 = .ok (.aload_n 0, 1) := by decide +kernel
theorem dX3_init_5 : decode cX3_init 5 = .ok (.bipush 14, 2) := by decide +kernel
theorem dX3_init_7 : decode cX3_init 7 = .ok (.newarray .int, 2) := by decide +kernel
theorem dX3_init_9 : decode cX3_init 9 = .ok (.putfield 9, 3) := by decide +kernel
theorem dX3_init_12 : decode cX3_init 12 = .ok (.aload_n 0, 1) := by decide +kernel
theorem dX3_init_13 : decode cX3_init 13 = .ok (.sipush 301, 3) := by decide +kernel
theorem dX3_init_16 : decode cX3_init 16 = .ok (.newarray .int, 2) := by decide +kernel
theorem dX3_init_18 : decode cX3_init 18 = .ok (.putfield 15, 3) := by decide +kernel
theorem dX3_init_21 : decode cX3_init 21 = .ok (.aload_n 0, 1) := by decide +kernel
theorem dX3_init_22 : decode cX3_init 22 = .ok (.sipush 301, 3) := by decide +kernel
theorem dX3_init_25 : decode cX3_init 25 = .ok (.newarray .int, 2) := by decide +kernel
theorem dX3_init_27 : decode cX3_init 27 = .ok (.putfield 18, 3) := by decide +kernel
theorem dX3_init_30 : decode cX3_init 30 = .ok (.aload_n 0, 1) := by decide +kernel
theorem dX3_init_31 : decode cX3_init 31 = .ok (.iconst 0, 1) := by decide +kernel
theorem dX3_init_32 : decode cX3_init 32 = .ok (.putfield 21, 3) := by decide +kernel
theorem dX3_init_35 : decode cX3_init 35 = .ok (.iconst 0, 1) := by decide +kernel
theorem dX3_init_36 : decode cX3_init 36 = .ok (.istore_n 1, 1) := by decide +kernel
theorem dX3_init_37 : decode cX3_init 37 = .ok (.iload_n 1, 1) := by decide +kernel
theorem dX3_init_38 : decode cX3_init 38 = .ok (.bipush 14, 2) := by decide +kernel
theorem dX3_init_40 : decode cX3_init 40 = .ok (.if_icmp .ge 16, 3) := by decide +kernel
theorem dX3_init_43 : decode cX3_init 43 = .ok (.aload_n 0, 1) := by decide +kernel
theorem dX3_init_44 : decode cX3_init 44 = .ok (.getfield 9, 3) := by decide +kernel
theorem dX3_init_47 : decode cX3_init 47 = .ok (.iload_n 1, 1) := by decide +kernel
theorem dX3_init_48 : decode cX3_init 48 = .ok (.iconst (-1), 1) := by decide +kernel
theorem dX3_init_49 : decode cX3_init 49 = .ok (.iastore, 1) := by decide +kernel
theorem dX3_init_50 : decode cX3_init 50 = .ok (.iinc 1 1, 3) := by decide +kernel
theorem dX3_init_53 : decode cX3_init 53 = .ok (.goto (-16), 3) := by decide +kernel
theorem dX3_init_56 : decode cX3_init 56 = .ok (.return_, 1) := by decide +kernel
theorem dX3_numberOf_0 : decode cX3_numberOf 0 = .ok (.aload_n 0, 1) := by decide +kernel
theorem dX3_numberOf_1 : decode cX3_numberOf 1 = .ok (.getfield 9, 3) := by decide +kernel
theorem dX3_numberOf_4 : decode cX3_numberOf 4 = .ok (.iload_n 1, 1) := by decide +kernel
theorem dX3_numberOf_5 : decode cX3_numberOf 5 = .ok (.iaload, 1) := by decide +kernel
theorem dX3_numberOf_6 : decode cX3_numberOf 6 = .ok (.ireturn, 1) := by decide +kernel
theorem dX3_stateOf_0 : decode cX3_stateOf 0 = .ok (.aload_n 0, 1) := by decide +kernel
theorem dX3_stateOf_1 : decode cX3_stateOf 1 = .ok (.iload_n 1, 1) := by decide +kernel
theorem dX3_stateOf_2 : decode cX3_stateOf 2 = .ok (.invokevirtual 25, 3) := by decide +kernel
theorem dX3_stateOf_5 : decode cX3_stateOf 5 = .ok (.ifCond .ne 5, 3) := by decide +kernel
theorem dX3_stateOf_8 : decode cX3_stateOf 8 = .ok (.iconst 0, 1) := by decide +kernel
theorem dX3_stateOf_9 : decode cX3_stateOf 9 = .ok (.ireturn, 1) := by decide +kernel
theorem dX3_stateOf_10 : decode cX3_stateOf 10 = .ok (.aload_n 0, 1) := by decide +kernel
theorem dX3_stateOf_11 : decode cX3_stateOf 11 = .ok (.getfield 18, 3) := by decide +kernel
theorem dX3_stateOf_14 : decode cX3_stateOf 14 = .ok (.iload_n 1, 1) := by decide +kernel
theorem dX3_stateOf_15 : decode cX3_stateOf 15 = .ok (.iaload, 1) := by decide +kernel
theorem dX3_stateOf_16 : decode cX3_stateOf 16 = .ok (.iconst (-1), 1) := by decide +kernel
theorem dX3_stateOf_17 : decode cX3_stateOf 17 = .ok (.if_icmp .eq 5, 3) := by decide +kernel
theorem dX3_stateOf_20 : decode cX3_stateOf 20 = .ok (.iconst 3, 1) := by decide +kernel
theorem dX3_stateOf_21 : decode cX3_stateOf 21 = .ok (.ireturn, 1) := by decide +kernel
theorem dX3_stateOf_22 : decode cX3_stateOf 22 = .ok (.aload_n 0, 1) := by decide +kernel
theorem dX3_stateOf_23 : decode cX3_stateOf 23 = .ok (.getfield 15, 3) := by decide +kernel
theorem dX3_stateOf_26 : decode cX3_stateOf 26 = .ok (.iload_n 1, 1) := by decide +kernel
theorem dX3_stateOf_27 : decode cX3_stateOf 27 = .ok (.iaload, 1) := by decide +kernel
theorem dX3_stateOf_28 : decode cX3_stateOf 28 = .ok (.ifCond .le 7, 3) := by decide +kernel
theorem dX3_stateOf_31 : decode cX3_stateOf 31 = .ok (.iconst 1, 1) := by decide +kernel
theorem dX3_stateOf_32 : decode cX3_stateOf 32 = .ok (.goto 4, 3) := by decide +kernel
theorem dX3_stateOf_35 : decode cX3_stateOf 35 = .ok (.iconst 2, 1) := by decide +kernel
theorem dX3_stateOf_36 : decode cX3_stateOf 36 = .ok (.ireturn, 1) := by decide +kernel
theorem dX3_sizeOf_0 : decode cX3_sizeOf 0 = .ok (.aload_n 0, 1) := by decide +kernel
theorem dX3_sizeOf_1 : decode cX3_sizeOf 1 = .ok (.iload_n 1, 1) := by decide +kernel
theorem dX3_sizeOf_2 : decode cX3_sizeOf 2 = .ok (.invokevirtual 25, 3) := by decide +kernel
theorem dX3_sizeOf_5 : decode cX3_sizeOf 5 = .ok (.ifCond .eq 12, 3) := by decide +kernel
theorem dX3_sizeOf_8 : decode cX3_sizeOf 8 = .ok (.aload_n 0, 1) := by decide +kernel
theorem dX3_sizeOf_9 : decode cX3_sizeOf 9 = .ok (.getfield 15, 3) := by decide +kernel
theorem dX3_sizeOf_12 : decode cX3_sizeOf 12 = .ok (.iload_n 1, 1) := by decide +kernel
theorem dX3_sizeOf_13 : decode cX3_sizeOf 13 = .ok (.iaload, 1) := by decide +kernel
theorem dX3_sizeOf_14 : decode cX3_sizeOf 14 = .ok (.goto 4, 3) := by decide +kernel
theorem dX3_sizeOf_17 : decode cX3_sizeOf 17 = .ok (.iconst 0, 1) := by decide +kernel
theorem dX3_sizeOf_18 : decode cX3_sizeOf 18 = .ok (.ireturn, 1) := by decide +kernel
theorem dX3_targetOf_0 : decode cX3_targetOf 0 = .ok (.aload_n 0, 1) := by decide +kernel
theorem dX3_targetOf_1 : decode cX3_targetOf 1 = .ok (.iload_n 1, 1) := by decide +kernel
theorem dX3_targetOf_2 : decode cX3_targetOf 2 = .ok (.invokevirtual 25, 3) := by decide +kernel
theorem dX3_targetOf_5 : decode cX3_targetOf 5 = .ok (.ifCond .eq 12, 3) := by decide +kernel
theorem dX3_targetOf_8 : decode cX3_targetOf 8 = .ok (.aload_n 0, 1) := by decide +kernel
theorem dX3_targetOf_9 : decode cX3_targetOf 9 = .ok (.getfield 18, 3) := by decide +kernel
theorem dX3_targetOf_12 : decode cX3_targetOf 12 = .ok (.iload_n 1, 1) := by decide +kernel
theorem dX3_targetOf_13 : decode cX3_targetOf 13 = .ok (.iaload, 1) := by decide +kernel
theorem dX3_targetOf_14 : decode cX3_targetOf 14 = .ok (.goto 4, 3) := by decide +kernel
theorem dX3_targetOf_17 : decode cX3_targetOf 17 = .ok (.iconst (-1), 1) := by decide +kernel
theorem dX3_targetOf_18 : decode cX3_targetOf 18 = .ok (.ireturn, 1) := by decide +kernel
theorem dX3_countOpen_0 : decode cX3_countOpen 0 = .ok (.iconst 0, 1) := by decide +kernel
theorem dX3_countOpen_1 : decode cX3_countOpen 1 = .ok (.istore_n 1, 1) := by decide +kernel
theorem dX3_countOpen_2 : decode cX3_countOpen 2 = .ok (.iconst 1, 1) := by decide +kernel
theorem dX3_countOpen_3 : decode cX3_countOpen 3 = .ok (.istore_n 2, 1) := by decide +kernel
theorem dX3_countOpen_4 : decode cX3_countOpen 4 = .ok (.iload_n 2, 1) := by decide +kernel
theorem dX3_countOpen_5 : decode cX3_countOpen 5 = .ok (.aload_n 0, 1) := by decide +kernel
theorem dX3_countOpen_6 : decode cX3_countOpen 6 = .ok (.getfield 21, 3) := by decide +kernel
theorem dX3_countOpen_9 : decode cX3_countOpen 9 = .ok (.if_icmp .gt 21, 3) := by decide +kernel
theorem dX3_countOpen_12 : decode cX3_countOpen 12 = .ok (.aload_n 0, 1) := by decide +kernel
theorem dX3_countOpen_13 : decode cX3_countOpen 13 = .ok (.iload_n 2, 1) := by decide +kernel
theorem dX3_countOpen_14 : decode cX3_countOpen 14 = .ok (.invokevirtual 29, 3) := by decide +kernel
theorem dX3_countOpen_17 : decode cX3_countOpen 17 = .ok (.iconst 1, 1) := by decide +kernel
theorem dX3_countOpen_18 : decode cX3_countOpen 18 = .ok (.if_icmp .ne 6, 3) := by decide +kernel
theorem dX3_countOpen_21 : decode cX3_countOpen 21 = .ok (.iinc 1 1, 3) := by decide +kernel
theorem dX3_countOpen_24 : decode cX3_countOpen 24 = .ok (.iinc 2 1, 3) := by decide +kernel
theorem dX3_countOpen_27 : decode cX3_countOpen 27 = .ok (.goto (-23), 3) := by decide +kernel
theorem dX3_countOpen_30 : decode cX3_countOpen 30 = .ok (.iload_n 1, 1) := by decide +kernel
theorem dX3_countOpen_31 : decode cX3_countOpen 31 = .ok (.ireturn, 1) := by decide +kernel
theorem dX3_join_0 : decode cX3_join 0 = .ok (.iload_n 2, 1) := by decide +kernel
theorem dX3_join_1 : decode cX3_join 1 = .ok (.ifCond .ne 10, 3) := by decide +kernel
theorem dX3_join_4 : decode cX3_join 4 = .ok (.aload_n 0, 1) := by decide +kernel
theorem dX3_join_5 : decode cX3_join 5 = .ok (.invokevirtual 33, 3) := by decide +kernel
theorem dX3_join_8 : decode cX3_join 8 = .ok (.goto 8, 3) := by decide +kernel
theorem dX3_join_11 : decode cX3_join 11 = .ok (.aload_n 0, 1) := by decide +kernel
theorem dX3_join_12 : decode cX3_join 12 = .ok (.iload_n 2, 1) := by decide +kernel
theorem dX3_join_13 : decode cX3_join 13 = .ok (.invokevirtual 37, 3) := by decide +kernel
theorem dX3_join_16 : decode cX3_join 16 = .ok (.istore_n 3, 1) := by decide +kernel
theorem dX3_join_17 : decode cX3_join 17 = .ok (.aload_n 0, 1) := by decide +kernel
theorem dX3_join_18 : decode cX3_join 18 = .ok (.getfield 9, 3) := by decide +kernel
theorem dX3_join_21 : decode cX3_join 21 = .ok (.iload_n 1, 1) := by decide +kernel
theorem dX3_join_22 : decode cX3_join 22 = .ok (.iload_n 3, 1) := by decide +kernel
theorem dX3_join_23 : decode cX3_join 23 = .ok (.iastore, 1) := by decide +kernel
theorem dX3_join_24 : decode cX3_join 24 = .ok (.aload_n 0, 1) := by decide +kernel
theorem dX3_join_25 : decode cX3_join 25 = .ok (.getfield 15, 3) := by decide +kernel
theorem dX3_join_28 : decode cX3_join 28 = .ok (.iload_n 3, 1) := by decide +kernel
theorem dX3_join_29 : decode cX3_join 29 = .ok (.dup2, 1) := by decide +kernel
theorem dX3_join_30 : decode cX3_join 30 = .ok (.iaload, 1) := by decide +kernel
theorem dX3_join_31 : decode cX3_join 31 = .ok (.iconst 1, 1) := by decide +kernel
theorem dX3_join_32 : decode cX3_join 32 = .ok (.iadd, 1) := by decide +kernel
theorem dX3_join_33 : decode cX3_join 33 = .ok (.iastore, 1) := by decide +kernel
theorem dX3_join_34 : decode cX3_join 34 = .ok (.iload_n 3, 1) := by decide +kernel
theorem dX3_join_35 : decode cX3_join 35 = .ok (.ireturn, 1) := by decide +kernel
theorem dX3_leave_0 : decode cX3_leave 0 = .ok (.aload_n 0, 1) := by decide +kernel
theorem dX3_leave_1 : decode cX3_leave 1 = .ok (.getfield 9, 3) := by decide +kernel
theorem dX3_leave_4 : decode cX3_leave 4 = .ok (.iload_n 1, 1) := by decide +kernel
theorem dX3_leave_5 : decode cX3_leave 5 = .ok (.iaload, 1) := by decide +kernel
theorem dX3_leave_6 : decode cX3_leave 6 = .ok (.istore_n 2, 1) := by decide +kernel
theorem dX3_leave_7 : decode cX3_leave 7 = .ok (.aload_n 0, 1) := by decide +kernel
theorem dX3_leave_8 : decode cX3_leave 8 = .ok (.getfield 9, 3) := by decide +kernel
theorem dX3_leave_11 : decode cX3_leave 11 = .ok (.iload_n 1, 1) := by decide +kernel
theorem dX3_leave_12 : decode cX3_leave 12 = .ok (.iconst (-1), 1) := by decide +kernel
theorem dX3_leave_13 : decode cX3_leave 13 = .ok (.iastore, 1) := by decide +kernel
theorem dX3_leave_14 : decode cX3_leave 14 = .ok (.aload_n 0, 1) := by decide +kernel
theorem dX3_leave_15 : decode cX3_leave 15 = .ok (.getfield 15, 3) := by decide +kernel
theorem dX3_leave_18 : decode cX3_leave 18 = .ok (.iload_n 2, 1) := by decide +kernel
theorem dX3_leave_19 : decode cX3_leave 19 = .ok (.dup2, 1) := by decide +kernel
theorem dX3_leave_20 : decode cX3_leave 20 = .ok (.iaload, 1) := by decide +kernel
theorem dX3_leave_21 : decode cX3_leave 21 = .ok (.iconst 1, 1) := by decide +kernel
theorem dX3_leave_22 : decode cX3_leave 22 = .ok (.isub, 1) := by decide +kernel
theorem dX3_leave_23 : decode cX3_leave 23 = .ok (.iastore, 1) := by decide +kernel
theorem dX3_leave_24 : decode cX3_leave 24 = .ok (.aload_n 0, 1) := by decide +kernel
theorem dX3_leave_25 : decode cX3_leave 25 = .ok (.getfield 15, 3) := by decide +kernel
theorem dX3_leave_28 : decode cX3_leave 28 = .ok (.iload_n 2, 1) := by decide +kernel
theorem dX3_leave_29 : decode cX3_leave 29 = .ok (.iaload, 1) := by decide +kernel
theorem dX3_leave_30 : decode cX3_leave 30 = .ok (.ireturn, 1) := by decide +kernel
theorem dX3_isUsed_0 : decode cX3_isUsed 0 = .ok (.iload_n 1, 1) := by decide +kernel
theorem dX3_isUsed_1 : decode cX3_isUsed 1 = .ok (.iconst 1, 1) := by decide +kernel
theorem dX3_isUsed_2 : decode cX3_isUsed 2 = .ok (.if_icmp .lt 15, 3) := by decide +kernel
theorem dX3_isUsed_5 : decode cX3_isUsed 5 = .ok (.iload_n 1, 1) := by decide +kernel
theorem dX3_isUsed_6 : decode cX3_isUsed 6 = .ok (.aload_n 0, 1) := by decide +kernel
theorem dX3_isUsed_7 : decode cX3_isUsed 7 = .ok (.getfield 21, 3) := by decide +kernel
theorem dX3_isUsed_10 : decode cX3_isUsed 10 = .ok (.if_icmp .gt 7, 3) := by decide +kernel
theorem dX3_isUsed_13 : decode cX3_isUsed 13 = .ok (.iconst 1, 1) := by decide +kernel
theorem dX3_isUsed_14 : decode cX3_isUsed 14 = .ok (.goto 4, 3) := by decide +kernel
theorem dX3_isUsed_17 : decode cX3_isUsed 17 = .ok (.iconst 0, 1) := by decide +kernel
theorem dX3_isUsed_18 : decode cX3_isUsed 18 = .ok (.ireturn, 1) := by decide +kernel
theorem dX3_openNew_0 : decode cX3_openNew 0 = .ok (.aload_n 0, 1) := by decide +kernel
theorem dX3_openNew_1 : decode cX3_openNew 1 = .ok (.dup, 1) := by decide +kernel
theorem dX3_openNew_2 : decode cX3_openNew 2 = .ok (.getfield 21, 3) := by decide +kernel
theorem dX3_openNew_5 : decode cX3_openNew 5 = .ok (.iconst 1, 1) := by decide +kernel
theorem dX3_openNew_6 : decode cX3_openNew 6 = .ok (.iadd, 1) := by decide +kernel
theorem dX3_openNew_7 : decode cX3_openNew 7 = .ok (.putfield 21, 3) := by decide +kernel
theorem dX3_openNew_10 : decode cX3_openNew 10 = .ok (.aload_n 0, 1) := by decide +kernel
theorem dX3_openNew_11 : decode cX3_openNew 11 = .ok (.getfield 18, 3) := by decide +kernel
theorem dX3_openNew_14 : decode cX3_openNew 14 = .ok (.aload_n 0, 1) := by decide +kernel
theorem dX3_openNew_15 : decode cX3_openNew 15 = .ok (.getfield 21, 3) := by decide +kernel
theorem dX3_openNew_18 : decode cX3_openNew 18 = .ok (.iconst (-1), 1) := by decide +kernel
theorem dX3_openNew_19 : decode cX3_openNew 19 = .ok (.iastore, 1) := by decide +kernel
theorem dX3_openNew_20 : decode cX3_openNew 20 = .ok (.aload_n 0, 1) := by decide +kernel
theorem dX3_openNew_21 : decode cX3_openNew 21 = .ok (.getfield 21, 3) := by decide +kernel
theorem dX3_openNew_24 : decode cX3_openNew 24 = .ok (.ireturn, 1) := by decide +kernel
theorem dX3_unite_0 : decode cX3_unite 0 = .ok (.aload_n 0, 1) := by decide +kernel
theorem dX3_unite_1 : decode cX3_unite 1 = .ok (.getfield 21, 3) := by decide +kernel
theorem dX3_unite_4 : decode cX3_unite 4 = .ok (.istore_n 2, 1) := by decide +kernel
theorem dX3_unite_5 : decode cX3_unite 5 = .ok (.iconst 0, 1) := by decide +kernel
theorem dX3_unite_6 : decode cX3_unite 6 = .ok (.istore_n 3, 1) := by decide +kernel
theorem dX3_unite_7 : decode cX3_unite 7 = .ok (.iload_n 3, 1) := by decide +kernel
theorem dX3_unite_8 : decode cX3_unite 8 = .ok (.bipush 14, 2) := by decide +kernel
theorem dX3_unite_10 : decode cX3_unite 10 = .ok (.if_icmp .ge 28, 3) := by decide +kernel
theorem dX3_unite_13 : decode cX3_unite 13 = .ok (.iload_n 1, 1) := by decide +kernel
theorem dX3_unite_14 : decode cX3_unite 14 = .ok (.iload_n 3, 1) := by decide +kernel
theorem dX3_unite_15 : decode cX3_unite 15 = .ok (.invokestatic 40, 3) := by decide +kernel
theorem dX3_unite_18 : decode cX3_unite 18 = .ok (.ifCond .eq 14, 3) := by decide +kernel
theorem dX3_unite_21 : decode cX3_unite 21 = .ok (.iload_n 2, 1) := by decide +kernel
theorem dX3_unite_22 : decode cX3_unite 22 = .ok (.aload_n 0, 1) := by decide +kernel
theorem dX3_unite_23 : decode cX3_unite 23 = .ok (.getfield 9, 3) := by decide +kernel
theorem dX3_unite_26 : decode cX3_unite 26 = .ok (.iload_n 3, 1) := by decide +kernel
theorem dX3_unite_27 : decode cX3_unite 27 = .ok (.iaload, 1) := by decide +kernel
theorem dX3_unite_28 : decode cX3_unite 28 = .ok (.invokestatic 44, 3) := by decide +kernel
theorem dX3_unite_31 : decode cX3_unite 31 = .ok (.istore_n 2, 1) := by decide +kernel
theorem dX3_unite_32 : decode cX3_unite 32 = .ok (.iinc 3 1, 3) := by decide +kernel
theorem dX3_unite_35 : decode cX3_unite 35 = .ok (.goto (-28), 3) := by decide +kernel
theorem dX3_unite_38 : decode cX3_unite 38 = .ok (.iconst 0, 1) := by decide +kernel
theorem dX3_unite_39 : decode cX3_unite 39 = .ok (.istore_n 3, 1) := by decide +kernel
theorem dX3_unite_40 : decode cX3_unite 40 = .ok (.iload_n 3, 1) := by decide +kernel
theorem dX3_unite_41 : decode cX3_unite 41 = .ok (.bipush 14, 2) := by decide +kernel
theorem dX3_unite_43 : decode cX3_unite 43 = .ok (.if_icmp .ge 38, 3) := by decide +kernel
theorem dX3_unite_46 : decode cX3_unite 46 = .ok (.iload_n 1, 1) := by decide +kernel
theorem dX3_unite_47 : decode cX3_unite 47 = .ok (.iload_n 3, 1) := by decide +kernel
theorem dX3_unite_48 : decode cX3_unite 48 = .ok (.invokestatic 40, 3) := by decide +kernel
theorem dX3_unite_51 : decode cX3_unite 51 = .ok (.ifCond .eq 24, 3) := by decide +kernel
theorem dX3_unite_54 : decode cX3_unite 54 = .ok (.aload_n 0, 1) := by decide +kernel
theorem dX3_unite_55 : decode cX3_unite 55 = .ok (.getfield 9, 3) := by decide +kernel
theorem dX3_unite_58 : decode cX3_unite 58 = .ok (.iload_n 3, 1) := by decide +kernel
theorem dX3_unite_59 : decode cX3_unite 59 = .ok (.iaload, 1) := by decide +kernel
theorem dX3_unite_60 : decode cX3_unite 60 = .ok (.iload_n 2, 1) := by decide +kernel
theorem dX3_unite_61 : decode cX3_unite 61 = .ok (.if_icmp .eq 14, 3) := by decide +kernel
theorem dX3_unite_64 : decode cX3_unite 64 = .ok (.aload_n 0, 1) := by decide +kernel
theorem dX3_unite_65 : decode cX3_unite 65 = .ok (.aload_n 0, 1) := by decide +kernel
theorem dX3_unite_66 : decode cX3_unite 66 = .ok (.getfield 9, 3) := by decide +kernel
theorem dX3_unite_69 : decode cX3_unite 69 = .ok (.iload_n 3, 1) := by decide +kernel
theorem dX3_unite_70 : decode cX3_unite 70 = .ok (.iaload, 1) := by decide +kernel
theorem dX3_unite_71 : decode cX3_unite 71 = .ok (.iload_n 2, 1) := by decide +kernel
theorem dX3_unite_72 : decode cX3_unite 72 = .ok (.invokevirtual 50, 3) := by decide +kernel
theorem dX3_unite_75 : decode cX3_unite 75 = .ok (.iinc 3 1, 3) := by decide +kernel
theorem dX3_unite_78 : decode cX3_unite 78 = .ok (.goto (-38), 3) := by decide +kernel
theorem dX3_unite_81 : decode cX3_unite 81 = .ok (.iload_n 2, 1) := by decide +kernel
theorem dX3_unite_82 : decode cX3_unite 82 = .ok (.ireturn, 1) := by decide +kernel
theorem dX3_merge_0 : decode cX3_merge 0 = .ok (.iconst 0, 1) := by decide +kernel
theorem dX3_merge_1 : decode cX3_merge 1 = .ok (.istore_n 3, 1) := by decide +kernel
theorem dX3_merge_2 : decode cX3_merge 2 = .ok (.iload_n 3, 1) := by decide +kernel
theorem dX3_merge_3 : decode cX3_merge 3 = .ok (.bipush 14, 2) := by decide +kernel
theorem dX3_merge_5 : decode cX3_merge 5 = .ok (.if_icmp .ge 26, 3) := by decide +kernel
theorem dX3_merge_8 : decode cX3_merge 8 = .ok (.aload_n 0, 1) := by decide +kernel
theorem dX3_merge_9 : decode cX3_merge 9 = .ok (.getfield 9, 3) := by decide +kernel
theorem dX3_merge_12 : decode cX3_merge 12 = .ok (.iload_n 3, 1) := by decide +kernel
theorem dX3_merge_13 : decode cX3_merge 13 = .ok (.iaload, 1) := by decide +kernel
theorem dX3_merge_14 : decode cX3_merge 14 = .ok (.iload_n 1, 1) := by decide +kernel
theorem dX3_merge_15 : decode cX3_merge 15 = .ok (.if_icmp .ne 10, 3) := by decide +kernel
theorem dX3_merge_18 : decode cX3_merge 18 = .ok (.aload_n 0, 1) := by decide +kernel
theorem dX3_merge_19 : decode cX3_merge 19 = .ok (.getfield 9, 3) := by decide +kernel
theorem dX3_merge_22 : decode cX3_merge 22 = .ok (.iload_n 3, 1) := by decide +kernel
theorem dX3_merge_23 : decode cX3_merge 23 = .ok (.iload_n 2, 1) := by decide +kernel
theorem dX3_merge_24 : decode cX3_merge 24 = .ok (.iastore, 1) := by decide +kernel
theorem dX3_merge_25 : decode cX3_merge 25 = .ok (.iinc 3 1, 3) := by decide +kernel
theorem dX3_merge_28 : decode cX3_merge 28 = .ok (.goto (-26), 3) := by decide +kernel
theorem dX3_merge_31 : decode cX3_merge 31 = .ok (.aload_n 0, 1) := by decide +kernel
theorem dX3_merge_32 : decode cX3_merge 32 = .ok (.getfield 15, 3) := by decide +kernel
theorem dX3_merge_35 : decode cX3_merge 35 = .ok (.iload_n 2, 1) := by decide +kernel
theorem dX3_merge_36 : decode cX3_merge 36 = .ok (.dup2, 1) := by decide +kernel
theorem dX3_merge_37 : decode cX3_merge 37 = .ok (.iaload, 1) := by decide +kernel
theorem dX3_merge_38 : decode cX3_merge 38 = .ok (.aload_n 0, 1) := by decide +kernel
theorem dX3_merge_39 : decode cX3_merge 39 = .ok (.getfield 15, 3) := by decide +kernel
theorem dX3_merge_42 : decode cX3_merge 42 = .ok (.iload_n 1, 1) := by decide +kernel
theorem dX3_merge_43 : decode cX3_merge 43 = .ok (.iaload, 1) := by decide +kernel
theorem dX3_merge_44 : decode cX3_merge 44 = .ok (.iadd, 1) := by decide +kernel
theorem dX3_merge_45 : decode cX3_merge 45 = .ok (.iastore, 1) := by decide +kernel
theorem dX3_merge_46 : decode cX3_merge 46 = .ok (.aload_n 0, 1) := by decide +kernel
theorem dX3_merge_47 : decode cX3_merge 47 = .ok (.getfield 15, 3) := by decide +kernel
theorem dX3_merge_50 : decode cX3_merge 50 = .ok (.iload_n 1, 1) := by decide +kernel
theorem dX3_merge_51 : decode cX3_merge 51 = .ok (.iconst 0, 1) := by decide +kernel
theorem dX3_merge_52 : decode cX3_merge 52 = .ok (.iastore, 1) := by decide +kernel
theorem dX3_merge_53 : decode cX3_merge 53 = .ok (.aload_n 0, 1) := by decide +kernel
theorem dX3_merge_54 : decode cX3_merge 54 = .ok (.getfield 18, 3) := by decide +kernel
theorem dX3_merge_57 : decode cX3_merge 57 = .ok (.iload_n 1, 1) := by decide +kernel
theorem dX3_merge_58 : decode cX3_merge 58 = .ok (.iload_n 2, 1) := by decide +kernel
theorem dX3_merge_59 : decode cX3_merge 59 = .ok (.iastore, 1) := by decide +kernel
theorem dX3_merge_60 : decode cX3_merge 60 = .ok (.return_, 1) := by decide +kernel
theorem dX4_init_0 : decode cX4_init 0 = .ok (.aload_n 0, 1) := by decide +kernel
theorem dX4_init_1 : decode cX4_init 1 = .ok (.invokespecial 1, 3) := by decide +kernel
theorem dX4_init_4 : decode cX4_init 4 = .ok (.aload_n 0, 1) := by decide +kernel
theorem dX4_init_5 : decode cX4_init 5 = .ok (.new 7, 3) := by decide +kernel
theorem dX4_init_8 : decode cX4_init 8 = .ok (.dup, 1) := by decide +kernel
theorem dX4_init_9 : decode cX4_init 9 = .ok (.invokespecial 9, 3) := by decide +kernel
theorem dX4_init_12 : decode cX4_init 12 = .ok (.putfield 10, 3) := by decide +kernel
theorem dX4_init_15 : decode cX4_init 15 = .ok (.aload_n 0, 1) := by decide +kernel
theorem dX4_init_16 : decode cX4_init 16 = .ok (.new 16, 3) := by decide +kernel
theorem dX4_init_19 : decode cX4_init 19 = .ok (.dup, 1) := by decide +kernel
theorem dX4_init_20 : decode cX4_init 20 = .ok (.invokespecial 18, 3) := by decide +kernel
theorem dX4_init_23 : decode cX4_init 23 = .ok (.putfield 19, 3) := by decide +kernel
theorem dX4_init_26 : decode cX4_init 26 = .ok (.aload_n 0, 1) := by decide +kernel
theorem dX4_init_27 : decode cX4_init 27 = .ok (.new 23, 3) := by decide +kernel
theorem dX4_init_30 : decode cX4_init 30 = .ok (.dup, 1) := by decide +kernel
theorem dX4_init_31 : decode cX4_init 31 = .ok (.invokespecial 25, 3) := by decide +kernel
theorem dX4_init_34 : decode cX4_init 34 = .ok (.putfield 26, 3) := by decide +kernel
theorem dX4_init_37 : decode cX4_init 37 = .ok (.aload_n 0, 1) := by decide +kernel
theorem dX4_init_38 : decode cX4_init 38 = .ok (.iconst 0, 1) := by decide +kernel
theorem dX4_init_39 : decode cX4_init 39 = .ok (.putfield 30, 3) := by decide +kernel
theorem dX4_init_42 : decode cX4_init 42 = .ok (.aload_n 0, 1) := by decide +kernel
theorem dX4_init_43 : decode cX4_init 43 = .ok (.iconst 0, 1) := by decide +kernel
theorem dX4_init_44 : decode cX4_init 44 = .ok (.putfield 34, 3) := by decide +kernel
theorem dX4_init_47 : decode cX4_init 47 = .ok (.return_, 1) := by decide +kernel
theorem dX4_need_0 : decode cX4_need 0 = .ok (.iload_n 1, 1) := by decide +kernel
theorem dX4_need_1 : decode cX4_need 1 = .ok (.invokestatic 37, 3) := by decide +kernel
theorem dX4_need_4 : decode cX4_need 4 = .ok (.iload_n 2, 1) := by decide +kernel
theorem dX4_need_5 : decode cX4_need 5 = .ok (.invokestatic 37, 3) := by decide +kernel
theorem dX4_need_8 : decode cX4_need 8 = .ok (.iload_n 1, 1) := by decide +kernel
theorem dX4_need_9 : decode cX4_need 9 = .ok (.iload_n 2, 1) := by decide +kernel
theorem dX4_need_10 : decode cX4_need 10 = .ok (.if_icmp .eq 18, 3) := by decide +kernel
theorem dX4_need_13 : decode cX4_need 13 = .ok (.aload_n 0, 1) := by decide +kernel
theorem dX4_need_14 : decode cX4_need 14 = .ok (.getfield 10, 3) := by decide +kernel
theorem dX4_need_17 : decode cX4_need 17 = .ok (.iload_n 2, 1) := by decide +kernel
theorem dX4_need_18 : decode cX4_need 18 = .ok (.invokevirtual 41, 3) := by decide +kernel
theorem dX4_need_21 : decode cX4_need 21 = .ok (.iload_n 1, 1) := by decide +kernel
theorem dX4_need_22 : decode cX4_need 22 = .ok (.invokestatic 45, 3) := by decide +kernel
theorem dX4_need_25 : decode cX4_need 25 = .ok (.ifCond .eq 13, 3) := by decide +kernel
theorem dX4_need_28 : decode cX4_need 28 = .ok (.new 49, 3) := by decide +kernel
theorem dX4_need_31 : decode cX4_need 31 = .ok (.dup, 1) := by decide +kernel
theorem dX4_need_32 : decode cX4_need 32 = .ok (.ldc 51, 2) := by decide +kernel
theorem dX4_need_34 : decode cX4_need 34 = .ok (.invokespecial 53, 3) := by decide +kernel
theorem dX4_need_37 : decode cX4_need 37 = .ok (.athrow, 1) := by decide +kernel
theorem dX4_need_38 : decode cX4_need 38 = .ok (.aload_n 0, 1) := by decide +kernel
theorem dX4_need_39 : decode cX4_need 39 = .ok (.getfield 10, 3) := by decide +kernel
theorem dX4_need_42 : decode cX4_need 42 = .ok (.iload_n 1, 1) := by decide +kernel
theorem dX4_need_43 : decode cX4_need 43 = .ok (.iload_n 2, 1) := by decide +kernel
theorem dX4_need_44 : decode cX4_need 44 = .ok (.invokevirtual 56, 3) := by decide +kernel
theorem dX4_need_47 : decode cX4_need 47 = .ok (.ireturn, 1) := by decide +kernel
theorem dX4_release_0 : decode cX4_release 0 = .ok (.iload_n 1, 1) := by decide +kernel
theorem dX4_release_1 : decode cX4_release 1 = .ok (.invokestatic 37, 3) := by decide +kernel
theorem dX4_release_4 : decode cX4_release 4 = .ok (.iload_n 2, 1) := by decide +kernel
theorem dX4_release_5 : decode cX4_release 5 = .ok (.invokestatic 37, 3) := by decide +kernel
theorem dX4_release_8 : decode cX4_release 8 = .ok (.aload_n 0, 1) := by decide +kernel
theorem dX4_release_9 : decode cX4_release 9 = .ok (.getfield 10, 3) := by decide +kernel
theorem dX4_release_12 : decode cX4_release 12 = .ok (.iload_n 1, 1) := by decide +kernel
theorem dX4_release_13 : decode cX4_release 13 = .ok (.iload_n 2, 1) := by decide +kernel
theorem dX4_release_14 : decode cX4_release 14 = .ok (.invokevirtual 59, 3) := by decide +kernel
theorem dX4_release_17 : decode cX4_release 17 = .ok (.ireturn, 1) := by decide +kernel
theorem dX4_needs_0 : decode cX4_needs 0 = .ok (.iload_n 1, 1) := by decide +kernel
theorem dX4_needs_1 : decode cX4_needs 1 = .ok (.invokestatic 37, 3) := by decide +kernel
theorem dX4_needs_4 : decode cX4_needs 4 = .ok (.iload_n 2, 1) := by decide +kernel
theorem dX4_needs_5 : decode cX4_needs 5 = .ok (.invokestatic 37, 3) := by decide +kernel
theorem dX4_needs_8 : decode cX4_needs 8 = .ok (.aload_n 0, 1) := by decide +kernel
end
section
theorem dX4_needs_9 : decode cX4_needs 9 = .ok (.getfield 10, 3) := by decide +kernel
theorem dX4_needs_12 : decode cX4_needs 12 = .ok (.iload_n 1, 1) := by decide +kernel
theorem dX4_needs_13 : decode cX4_needs 13 = .ok (.invokevirtual 62, 3) := by decide +kernel
theorem dX4_needs_16 : decode cX4_needs 16 = .ok (.iload_n 2, 1) := by decide +kernel
theorem dX4_needs_17 : decode cX4_needs 17 = .ok (.invokestatic 45, 3) := by decide +kernel
theorem dX4_needs_20 : decode cX4_needs 20 = .ok (.ireturn, 1) := by decide +kernel
theorem dX4_dependsOn_0 : decode cX4_dependsOn 0 = .ok (.iload_n 1, 1) := by decide +kernel
theorem dX4_dependsOn_1 : decode cX4_dependsOn 1 = .ok (.invokestatic 37, 3) := by decide +kernel
theorem dX4_dependsOn_4 : decode cX4_dependsOn 4 = .ok (.iload_n 2, 1) := by decide +kernel
theorem dX4_dependsOn_5 : decode cX4_dependsOn 5 = .ok (.invokestatic 37, 3) := by decide +kernel
theorem dX4_dependsOn_8 : decode cX4_dependsOn 8 = .ok (.aload_n 0, 1) := by decide +kernel
theorem dX4_dependsOn_9 : decode cX4_dependsOn 9 = .ok (.getfield 10, 3) := by decide +kernel
theorem dX4_dependsOn_12 : decode cX4_dependsOn 12 = .ok (.iload_n 1, 1) := by decide +kernel
theorem dX4_dependsOn_13 : decode cX4_dependsOn 13 = .ok (.invokevirtual 41, 3) := by decide +kernel
theorem dX4_dependsOn_16 : decode cX4_dependsOn 16 = .ok (.iload_n 2, 1) := by decide +kernel
theorem dX4_dependsOn_17 : decode cX4_dependsOn 17 = .ok (.invokestatic 45, 3) := by decide +kernel
theorem dX4_dependsOn_20 : decode cX4_dependsOn 20 = .ok (.ireturn, 1) := by decide +kernel
theorem dX4_height_0 : decode cX4_height 0 = .ok (.iload_n 1, 1) := by decide +kernel
theorem dX4_height_1 : decode cX4_height 1 = .ok (.invokestatic 37, 3) := by decide +kernel
theorem dX4_height_4 : decode cX4_height 4 = .ok (.aload_n 0, 1) := by decide +kernel
theorem dX4_height_5 : decode cX4_height 5 = .ok (.getfield 10, 3) := by decide +kernel
theorem dX4_height_8 : decode cX4_height 8 = .ok (.iload_n 1, 1) := by decide +kernel
theorem dX4_height_9 : decode cX4_height 9 = .ok (.invokevirtual 65, 3) := by decide +kernel
theorem dX4_height_12 : decode cX4_height 12 = .ok (.ireturn, 1) := by decide +kernel
theorem dX4_tick_0 : decode cX4_tick 0 = .ok (.iload_n 1, 1) := by decide +kernel
theorem dX4_tick_1 : decode cX4_tick 1 = .ok (.bipush 100, 2) := by decide +kernel
theorem dX4_tick_3 : decode cX4_tick 3 = .ok (.invokestatic 68, 3) := by decide +kernel
theorem dX4_tick_6 : decode cX4_tick 6 = .ok (.aload_n 0, 1) := by decide +kernel
theorem dX4_tick_7 : decode cX4_tick 7 = .ok (.dup, 1) := by decide +kernel
theorem dX4_tick_8 : decode cX4_tick 8 = .ok (.getfield 34, 3) := by decide +kernel
theorem dX4_tick_11 : decode cX4_tick 11 = .ok (.iload_n 1, 1) := by decide +kernel
theorem dX4_tick_12 : decode cX4_tick 12 = .ok (.iadd, 1) := by decide +kernel
theorem dX4_tick_13 : decode cX4_tick 13 = .ok (.putfield 34, 3) := by decide +kernel
theorem dX4_tick_16 : decode cX4_tick 16 = .ok (.aload_n 0, 1) := by decide +kernel
theorem dX4_tick_17 : decode cX4_tick 17 = .ok (.getfield 34, 3) := by decide +kernel
theorem dX4_tick_20 : decode cX4_tick 20 = .ok (.ireturn, 1) := by decide +kernel
theorem dX4_now_0 : decode cX4_now 0 = .ok (.aload_n 0, 1) := by decide +kernel
theorem dX4_now_1 : decode cX4_now 1 = .ok (.getfield 34, 3) := by decide +kernel
theorem dX4_now_4 : decode cX4_now 4 = .ok (.ireturn, 1) := by decide +kernel
theorem dX4_raise_0 : decode cX4_raise 0 = .ok (.iload_n 1, 1) := by decide +kernel
theorem dX4_raise_1 : decode cX4_raise 1 = .ok (.invokestatic 37, 3) := by decide +kernel
theorem dX4_raise_4 : decode cX4_raise 4 = .ok (.aload_n 0, 1) := by decide +kernel
theorem dX4_raise_5 : decode cX4_raise 5 = .ok (.aload_n 0, 1) := by decide +kernel
theorem dX4_raise_6 : decode cX4_raise 6 = .ok (.getfield 30, 3) := by decide +kernel
theorem dX4_raise_9 : decode cX4_raise 9 = .ok (.iload_n 1, 1) := by decide +kernel
theorem dX4_raise_10 : decode cX4_raise 10 = .ok (.invokestatic 45, 3) := by decide +kernel
theorem dX4_raise_13 : decode cX4_raise 13 = .ok (.ifCond .ne 7, 3) := by decide +kernel
theorem dX4_raise_16 : decode cX4_raise 16 = .ok (.iconst 1, 1) := by decide +kernel
theorem dX4_raise_17 : decode cX4_raise 17 = .ok (.goto 4, 3) := by decide +kernel
theorem dX4_raise_20 : decode cX4_raise 20 = .ok (.iconst 0, 1) := by decide +kernel
theorem dX4_raise_21 : decode cX4_raise 21 = .ok (.invokevirtual 72, 3) := by decide +kernel
theorem dX4_raise_24 : decode cX4_raise 24 = .ok (.aload_n 0, 1) := by decide +kernel
theorem dX4_raise_25 : decode cX4_raise 25 = .ok (.getfield 19, 3) := by decide +kernel
theorem dX4_raise_28 : decode cX4_raise 28 = .ok (.iload_n 1, 1) := by decide +kernel
theorem dX4_raise_29 : decode cX4_raise 29 = .ok (.aload_n 0, 1) := by decide +kernel
theorem dX4_raise_30 : decode cX4_raise 30 = .ok (.getfield 34, 3) := by decide +kernel
theorem dX4_raise_33 : decode cX4_raise 33 = .ok (.invokevirtual 76, 3) := by decide +kernel
theorem dX4_raise_36 : decode cX4_raise 36 = .ok (.aload_n 0, 1) := by decide +kernel
theorem dX4_raise_37 : decode cX4_raise 37 = .ok (.getfield 10, 3) := by decide +kernel
theorem dX4_raise_40 : decode cX4_raise 40 = .ok (.iload_n 1, 1) := by decide +kernel
theorem dX4_raise_41 : decode cX4_raise 41 = .ok (.invokevirtual 41, 3) := by decide +kernel
theorem dX4_raise_44 : decode cX4_raise 44 = .ok (.aload_n 0, 1) := by decide +kernel
theorem dX4_raise_45 : decode cX4_raise 45 = .ok (.getfield 10, 3) := by decide +kernel
theorem dX4_raise_48 : decode cX4_raise 48 = .ok (.iload_n 1, 1) := by decide +kernel
theorem dX4_raise_49 : decode cX4_raise 49 = .ok (.invokevirtual 79, 3) := by decide +kernel
theorem dX4_raise_52 : decode cX4_raise 52 = .ok (.ior, 1) := by decide +kernel
theorem dX4_raise_53 : decode cX4_raise 53 = .ok (.aload_n 0, 1) := by decide +kernel
theorem dX4_raise_54 : decode cX4_raise 54 = .ok (.getfield 30, 3) := by decide +kernel
theorem dX4_raise_57 : decode cX4_raise 57 = .ok (.iand, 1) := by decide +kernel
theorem dX4_raise_58 : decode cX4_raise 58 = .ok (.istore_n 2, 1) := by decide +kernel
theorem dX4_raise_59 : decode cX4_raise 59 = .ok (.aload_n 0, 1) := by decide +kernel
theorem dX4_raise_60 : decode cX4_raise 60 = .ok (.dup, 1) := by decide +kernel
theorem dX4_raise_61 : decode cX4_raise 61 = .ok (.getfield 30, 3) := by decide +kernel
theorem dX4_raise_64 : decode cX4_raise 64 = .ok (.iload_n 1, 1) := by decide +kernel
theorem dX4_raise_65 : decode cX4_raise 65 = .ok (.invokestatic 82, 3) := by decide +kernel
theorem dX4_raise_68 : decode cX4_raise 68 = .ok (.ior, 1) := by decide +kernel
theorem dX4_raise_69 : decode cX4_raise 69 = .ok (.putfield 30, 3) := by decide +kernel
theorem dX4_raise_72 : decode cX4_raise 72 = .ok (.aload_n 0, 1) := by decide +kernel
theorem dX4_raise_73 : decode cX4_raise 73 = .ok (.getfield 26, 3) := by decide +kernel
theorem dX4_raise_76 : decode cX4_raise 76 = .ok (.iload_n 1, 1) := by decide +kernel
theorem dX4_raise_77 : decode cX4_raise 77 = .ok (.iload_n 2, 1) := by decide +kernel
theorem dX4_raise_78 : decode cX4_raise 78 = .ok (.invokevirtual 85, 3) := by decide +kernel
theorem dX4_raise_81 : decode cX4_raise 81 = .ok (.ireturn, 1) := by decide +kernel
theorem dX4_clear_0 : decode cX4_clear 0 = .ok (.iload_n 1, 1) := by decide +kernel
theorem dX4_clear_1 : decode cX4_clear 1 = .ok (.invokestatic 37, 3) := by decide +kernel
theorem dX4_clear_4 : decode cX4_clear 4 = .ok (.aload_n 0, 1) := by decide +kernel
theorem dX4_clear_5 : decode cX4_clear 5 = .ok (.aload_n 0, 1) := by decide +kernel
theorem dX4_clear_6 : decode cX4_clear 6 = .ok (.getfield 30, 3) := by decide +kernel
theorem dX4_clear_9 : decode cX4_clear 9 = .ok (.iload_n 1, 1) := by decide +kernel
theorem dX4_clear_10 : decode cX4_clear 10 = .ok (.invokestatic 45, 3) := by decide +kernel
theorem dX4_clear_13 : decode cX4_clear 13 = .ok (.invokevirtual 72, 3) := by decide +kernel
theorem dX4_clear_16 : decode cX4_clear 16 = .ok (.aload_n 0, 1) := by decide +kernel
theorem dX4_clear_17 : decode cX4_clear 17 = .ok (.getfield 19, 3) := by decide +kernel
theorem dX4_clear_20 : decode cX4_clear 20 = .ok (.iload_n 1, 1) := by decide +kernel
theorem dX4_clear_21 : decode cX4_clear 21 = .ok (.aload_n 0, 1) := by decide +kernel
theorem dX4_clear_22 : decode cX4_clear 22 = .ok (.getfield 34, 3) := by decide +kernel
theorem dX4_clear_25 : decode cX4_clear 25 = .ok (.invokevirtual 89, 3) := by decide +kernel
theorem dX4_clear_28 : decode cX4_clear 28 = .ok (.aload_n 0, 1) := by decide +kernel
theorem dX4_clear_29 : decode cX4_clear 29 = .ok (.dup, 1) := by decide +kernel
theorem dX4_clear_30 : decode cX4_clear 30 = .ok (.getfield 30, 3) := by decide +kernel
theorem dX4_clear_33 : decode cX4_clear 33 = .ok (.iload_n 1, 1) := by decide +kernel
theorem dX4_clear_34 : decode cX4_clear 34 = .ok (.invokestatic 82, 3) := by decide +kernel
theorem dX4_clear_37 : decode cX4_clear 37 = .ok (.iconst (-1), 1) := by decide +kernel
theorem dX4_clear_38 : decode cX4_clear 38 = .ok (.ixor, 1) := by decide +kernel
theorem dX4_clear_39 : decode cX4_clear 39 = .ok (.iand, 1) := by decide +kernel
theorem dX4_clear_40 : decode cX4_clear 40 = .ok (.putfield 30, 3) := by decide +kernel
theorem dX4_clear_43 : decode cX4_clear 43 = .ok (.aload_n 0, 1) := by decide +kernel
theorem dX4_clear_44 : decode cX4_clear 44 = .ok (.getfield 26, 3) := by decide +kernel
theorem dX4_clear_47 : decode cX4_clear 47 = .ok (.iload_n 1, 1) := by decide +kernel
theorem dX4_clear_48 : decode cX4_clear 48 = .ok (.invokevirtual 92, 3) := by decide +kernel
theorem dX4_clear_51 : decode cX4_clear 51 = .ok (.ireturn, 1) := by decide +kernel
theorem dX4_state_0 : decode cX4_state 0 = .ok (.iload_n 1, 1) := by decide +kernel
theorem dX4_state_1 : decode cX4_state 1 = .ok (.invokestatic 37, 3) := by decide +kernel
theorem dX4_state_4 : decode cX4_state 4 = .ok (.aload_n 0, 1) := by decide +kernel
theorem dX4_state_5 : decode cX4_state 5 = .ok (.iload_n 1, 1) := by decide +kernel
theorem dX4_state_6 : decode cX4_state 6 = .ok (.invokevirtual 95, 3) := by decide +kernel
theorem dX4_state_9 : decode cX4_state 9 = .ok (.ireturn, 1) := by decide +kernel
theorem dX4_nodesThatAre_0 : decode cX4_nodesThatAre 0 = .ok (.iload_n 1, 1) := by decide +kernel
theorem dX4_nodesThatAre_1 : decode cX4_nodesThatAre 1 = .ok (.ifCond .lt 8, 3) := by decide +kernel
theorem dX4_nodesThatAre_4 : decode cX4_nodesThatAre 4 = .ok (.iload_n 1, 1) := by decide +kernel
theorem dX4_nodesThatAre_5 : decode cX4_nodesThatAre 5 = .ok (.iconst 3, 1) := by decide +kernel
theorem dX4_nodesThatAre_6 : decode cX4_nodesThatAre 6 = .ok (.if_icmp .le 13, 3) := by decide +kernel
theorem dX4_nodesThatAre_9 : decode cX4_nodesThatAre 9 = .ok (.new 49, 3) := by decide +kernel
theorem dX4_nodesThatAre_12 : decode cX4_nodesThatAre 12 = .ok (.dup, 1) := by decide +kernel
theorem dX4_nodesThatAre_13 : decode cX4_nodesThatAre 13 = .ok (.ldc 98, 2) := by decide +kernel
theorem dX4_nodesThatAre_15 : decode cX4_nodesThatAre 15 = .ok (.invokespecial 53, 3) := by decide +kernel
theorem dX4_nodesThatAre_18 : decode cX4_nodesThatAre 18 = .ok (.athrow, 1) := by decide +kernel
theorem dX4_nodesThatAre_19 : decode cX4_nodesThatAre 19 = .ok (.iconst 0, 1) := by decide +kernel
theorem dX4_nodesThatAre_20 : decode cX4_nodesThatAre 20 = .ok (.istore_n 2, 1) := by decide +kernel
theorem dX4_nodesThatAre_21 : decode cX4_nodesThatAre 21 = .ok (.iconst 0, 1) := by decide +kernel
theorem dX4_nodesThatAre_22 : decode cX4_nodesThatAre 22 = .ok (.istore_n 3, 1) := by decide +kernel
theorem dX4_nodesThatAre_23 : decode cX4_nodesThatAre 23 = .ok (.iload_n 3, 1) := by decide +kernel
theorem dX4_nodesThatAre_24 : decode cX4_nodesThatAre 24 = .ok (.bipush 14, 2) := by decide +kernel
theorem dX4_nodesThatAre_26 : decode cX4_nodesThatAre 26 = .ok (.if_icmp .ge 21, 3) := by decide +kernel
theorem dX4_nodesThatAre_29 : decode cX4_nodesThatAre 29 = .ok (.aload_n 0, 1) := by decide +kernel
theorem dX4_nodesThatAre_30 : decode cX4_nodesThatAre 30 = .ok (.iload_n 3, 1) := by decide +kernel
theorem dX4_nodesThatAre_31 : decode cX4_nodesThatAre 31 = .ok (.invokevirtual 95, 3) := by decide +kernel
theorem dX4_nodesThatAre_34 : decode cX4_nodesThatAre 34 = .ok (.iload_n 1, 1) := by decide +kernel
theorem dX4_nodesThatAre_35 : decode cX4_nodesThatAre 35 = .ok (.if_icmp .ne 6, 3) := by decide +kernel
theorem dX4_nodesThatAre_38 : decode cX4_nodesThatAre 38 = .ok (.iinc 2 1, 3) := by decide +kernel
theorem dX4_nodesThatAre_41 : decode cX4_nodesThatAre 41 = .ok (.iinc 3 1, 3) := by decide +kernel
theorem dX4_nodesThatAre_44 : decode cX4_nodesThatAre 44 = .ok (.goto (-21), 3) := by decide +kernel
theorem dX4_nodesThatAre_47 : decode cX4_nodesThatAre 47 = .ok (.iload_n 2, 1) := by decide +kernel
theorem dX4_nodesThatAre_48 : decode cX4_nodesThatAre 48 = .ok (.ireturn, 1) := by decide +kernel
theorem dX4_raises_0 : decode cX4_raises 0 = .ok (.iload_n 1, 1) := by decide +kernel
theorem dX4_raises_1 : decode cX4_raises 1 = .ok (.invokestatic 37, 3) := by decide +kernel
theorem dX4_raises_4 : decode cX4_raises 4 = .ok (.iload_n 2, 1) := by decide +kernel
theorem dX4_raises_5 : decode cX4_raises 5 = .ok (.sipush 1000, 3) := by decide +kernel
theorem dX4_raises_8 : decode cX4_raises 8 = .ok (.invokestatic 68, 3) := by decide +kernel
theorem dX4_raises_11 : decode cX4_raises 11 = .ok (.aload_n 0, 1) := by decide +kernel
theorem dX4_raises_12 : decode cX4_raises 12 = .ok (.getfield 19, 3) := by decide +kernel
theorem dX4_raises_15 : decode cX4_raises 15 = .ok (.iload_n 1, 1) := by decide +kernel
theorem dX4_raises_16 : decode cX4_raises 16 = .ok (.aload_n 0, 1) := by decide +kernel
theorem dX4_raises_17 : decode cX4_raises 17 = .ok (.getfield 34, 3) := by decide +kernel
theorem dX4_raises_20 : decode cX4_raises 20 = .ok (.iload_n 2, 1) := by decide +kernel
theorem dX4_raises_21 : decode cX4_raises 21 = .ok (.isub, 1) := by decide +kernel
theorem dX4_raises_22 : decode cX4_raises 22 = .ok (.invokevirtual 100, 3) := by decide +kernel
theorem dX4_raises_25 : decode cX4_raises 25 = .ok (.ireturn, 1) := by decide +kernel
theorem dX4_stateNow_0 : decode cX4_stateNow 0 = .ok (.aload_n 0, 1) := by decide +kernel
theorem dX4_stateNow_1 : decode cX4_stateNow 1 = .ok (.getfield 30, 3) := by decide +kernel
theorem dX4_stateNow_4 : decode cX4_stateNow 4 = .ok (.iload_n 1, 1) := by decide +kernel
theorem dX4_stateNow_5 : decode cX4_stateNow 5 = .ok (.invokestatic 45, 3) := by decide +kernel
theorem dX4_stateNow_8 : decode cX4_stateNow 8 = .ok (.ifCond .ne 5, 3) := by decide +kernel
theorem dX4_stateNow_11 : decode cX4_stateNow 11 = .ok (.iconst 0, 1) := by decide +kernel
theorem dX4_stateNow_12 : decode cX4_stateNow 12 = .ok (.ireturn, 1) := by decide +kernel
theorem dX4_stateNow_13 : decode cX4_stateNow 13 = .ok (.aload_n 0, 1) := by decide +kernel
theorem dX4_stateNow_14 : decode cX4_stateNow 14 = .ok (.getfield 19, 3) := by decide +kernel
theorem dX4_stateNow_17 : decode cX4_stateNow 17 = .ok (.iload_n 1, 1) := by decide +kernel
theorem dX4_stateNow_18 : decode cX4_stateNow 18 = .ok (.aload_n 0, 1) := by decide +kernel
theorem dX4_stateNow_19 : decode cX4_stateNow 19 = .ok (.getfield 34, 3) := by decide +kernel
theorem dX4_stateNow_22 : decode cX4_stateNow 22 = .ok (.bipush 10, 2) := by decide +kernel
theorem dX4_stateNow_24 : decode cX4_stateNow 24 = .ok (.isub, 1) := by decide +kernel
theorem dX4_stateNow_25 : decode cX4_stateNow 25 = .ok (.invokevirtual 100, 3) := by decide +kernel
theorem dX4_stateNow_28 : decode cX4_stateNow 28 = .ok (.iconst 3, 1) := by decide +kernel
theorem dX4_stateNow_29 : decode cX4_stateNow 29 = .ok (.if_icmp .lt 5, 3) := by decide +kernel
theorem dX4_stateNow_32 : decode cX4_stateNow 32 = .ok (.iconst 2, 1) := by decide +kernel
theorem dX4_stateNow_33 : decode cX4_stateNow 33 = .ok (.ireturn, 1) := by decide +kernel
theorem dX4_stateNow_34 : decode cX4_stateNow 34 = .ok (.aload_n 0, 1) := by decide +kernel
theorem dX4_stateNow_35 : decode cX4_stateNow 35 = .ok (.getfield 10, 3) := by decide +kernel
theorem dX4_stateNow_38 : decode cX4_stateNow 38 = .ok (.iload_n 1, 1) := by decide +kernel
theorem dX4_stateNow_39 : decode cX4_stateNow 39 = .ok (.invokevirtual 41, 3) := by decide +kernel
theorem dX4_stateNow_42 : decode cX4_stateNow 42 = .ok (.aload_n 0, 1) := by decide +kernel
theorem dX4_stateNow_43 : decode cX4_stateNow 43 = .ok (.getfield 30, 3) := by decide +kernel
theorem dX4_stateNow_46 : decode cX4_stateNow 46 = .ok (.iand, 1) := by decide +kernel
theorem dX4_stateNow_47 : decode cX4_stateNow 47 = .ok (.ifCond .eq 7, 3) := by decide +kernel
theorem dX4_stateNow_50 : decode cX4_stateNow 50 = .ok (.iconst 3, 1) := by decide +kernel
theorem dX4_stateNow_51 : decode cX4_stateNow 51 = .ok (.goto 4, 3) := by decide +kernel
theorem dX4_stateNow_54 : decode cX4_stateNow 54 = .ok (.iconst 1, 1) := by decide +kernel
theorem dX4_stateNow_55 : decode cX4_stateNow 55 = .ok (.ireturn, 1) := by decide +kernel
theorem dX4_events_0 : decode cX4_events 0 = .ok (.aload_n 0, 1) := by decide +kernel
theorem dX4_events_1 : decode cX4_events 1 = .ok (.getfield 19, 3) := by decide +kernel
theorem dX4_events_4 : decode cX4_events 4 = .ok (.invokevirtual 103, 3) := by decide +kernel
theorem dX4_events_7 : decode cX4_events 7 = .ok (.ireturn, 1) := by decide +kernel
theorem dX4_eventKind_0 : decode cX4_eventKind 0 = .ok (.aload_n 0, 1) := by decide +kernel
theorem dX4_eventKind_1 : decode cX4_eventKind 1 = .ok (.iload_n 1, 1) := by decide +kernel
theorem dX4_eventKind_2 : decode cX4_eventKind 2 = .ok (.invokevirtual 107, 3) := by decide +kernel
theorem dX4_eventKind_5 : decode cX4_eventKind 5 = .ok (.aload_n 0, 1) := by decide +kernel
theorem dX4_eventKind_6 : decode cX4_eventKind 6 = .ok (.getfield 19, 3) := by decide +kernel
theorem dX4_eventKind_9 : decode cX4_eventKind 9 = .ok (.iload_n 1, 1) := by decide +kernel
theorem dX4_eventKind_10 : decode cX4_eventKind 10 = .ok (.invokevirtual 110, 3) := by decide +kernel
theorem dX4_eventKind_13 : decode cX4_eventKind 13 = .ok (.ireturn, 1) := by decide +kernel
theorem dX4_eventNode_0 : decode cX4_eventNode 0 = .ok (.aload_n 0, 1) := by decide +kernel
theorem dX4_eventNode_1 : decode cX4_eventNode 1 = .ok (.iload_n 1, 1) := by decide +kernel
theorem dX4_eventNode_2 : decode cX4_eventNode 2 = .ok (.invokevirtual 107, 3) := by decide +kernel
theorem dX4_eventNode_5 : decode cX4_eventNode 5 = .ok (.aload_n 0, 1) := by decide +kernel
theorem dX4_eventNode_6 : decode cX4_eventNode 6 = .ok (.getfield 19, 3) := by decide +kernel
theorem dX4_eventNode_9 : decode cX4_eventNode 9 = .ok (.iload_n 1, 1) := by decide +kernel
theorem dX4_eventNode_10 : decode cX4_eventNode 10 = .ok (.invokevirtual 113, 3) := by decide +kernel
theorem dX4_eventNode_13 : decode cX4_eventNode 13 = .ok (.ireturn, 1) := by decide +kernel
theorem dX4_eventTime_0 : decode cX4_eventTime 0 = .ok (.aload_n 0, 1) := by decide +kernel
theorem dX4_eventTime_1 : decode cX4_eventTime 1 = .ok (.iload_n 1, 1) := by decide +kernel
theorem dX4_eventTime_2 : decode cX4_eventTime 2 = .ok (.invokevirtual 107, 3) := by decide +kernel
theorem dX4_eventTime_5 : decode cX4_eventTime 5 = .ok (.aload_n 0, 1) := by decide +kernel
theorem dX4_eventTime_6 : decode cX4_eventTime 6 = .ok (.getfield 19, 3) := by decide +kernel
theorem dX4_eventTime_9 : decode cX4_eventTime 9 = .ok (.iload_n 1, 1) := by decide +kernel
theorem dX4_eventTime_10 : decode cX4_eventTime 10 = .ok (.invokevirtual 116, 3) := by decide +kernel
theorem dX4_eventTime_13 : decode cX4_eventTime 13 = .ok (.ireturn, 1) := by decide +kernel
theorem dX4_eventLength_0 : decode cX4_eventLength 0 = .ok (.aload_n 0, 1) := by decide +kernel
theorem dX4_eventLength_1 : decode cX4_eventLength 1 = .ok (.iload_n 1, 1) := by decide +kernel
theorem dX4_eventLength_2 : decode cX4_eventLength 2 = .ok (.invokevirtual 107, 3) := by decide +kernel
theorem dX4_eventLength_5 : decode cX4_eventLength 5 = .ok (.aload_n 0, 1) := by decide +kernel
theorem dX4_eventLength_6 : decode cX4_eventLength 6 = .ok (.getfield 19, 3) := by decide +kernel
theorem dX4_eventLength_9 : decode cX4_eventLength 9 = .ok (.iload_n 1, 1) := by decide +kernel
theorem dX4_eventLength_10 : decode cX4_eventLength 10 = .ok (.invokevirtual 119, 3) := by decide +kernel
theorem dX4_eventLength_13 : decode cX4_eventLength 13 = .ok (.ireturn, 1) := by decide +kernel
theorem dX4_openTickets_0 : decode cX4_openTickets 0 = .ok (.aload_n 0, 1) := by decide +kernel
theorem dX4_openTickets_1 : decode cX4_openTickets 1 = .ok (.getfield 26, 3) := by decide +kernel
theorem dX4_openTickets_4 : decode cX4_openTickets 4 = .ok (.invokevirtual 122, 3) := by decide +kernel
theorem dX4_openTickets_7 : decode cX4_openTickets 7 = .ok (.ireturn, 1) := by decide +kernel
theorem dX4_ticketOf_0 : decode cX4_ticketOf 0 = .ok (.iload_n 1, 1) := by decide +kernel
theorem dX4_ticketOf_1 : decode cX4_ticketOf 1 = .ok (.invokestatic 37, 3) := by decide +kernel
theorem dX4_ticketOf_4 : decode cX4_ticketOf 4 = .ok (.aload_n 0, 1) := by decide +kernel
theorem dX4_ticketOf_5 : decode cX4_ticketOf 5 = .ok (.getfield 26, 3) := by decide +kernel
theorem dX4_ticketOf_8 : decode cX4_ticketOf 8 = .ok (.iload_n 1, 1) := by decide +kernel
theorem dX4_ticketOf_9 : decode cX4_ticketOf 9 = .ok (.invokevirtual 125, 3) := by decide +kernel
theorem dX4_ticketOf_12 : decode cX4_ticketOf 12 = .ok (.ireturn, 1) := by decide +kernel
theorem dX4_ticketState_0 : decode cX4_ticketState 0 = .ok (.aload_n 0, 1) := by decide +kernel
theorem dX4_ticketState_1 : decode cX4_ticketState 1 = .ok (.getfield 26, 3) := by decide +kernel
theorem dX4_ticketState_4 : decode cX4_ticketState 4 = .ok (.iload_n 1, 1) := by decide +kernel
theorem dX4_ticketState_5 : decode cX4_ticketState 5 = .ok (.invokevirtual 128, 3) := by decide +kernel
theorem dX4_ticketState_8 : decode cX4_ticketState 8 = .ok (.ireturn, 1) := by decide +kernel
theorem dX4_ticketSize_0 : decode cX4_ticketSize 0 = .ok (.aload_n 0, 1) := by decide +kernel
theorem dX4_ticketSize_1 : decode cX4_ticketSize 1 = .ok (.getfield 26, 3) := by decide +kernel
theorem dX4_ticketSize_4 : decode cX4_ticketSize 4 = .ok (.iload_n 1, 1) := by decide +kernel
theorem dX4_ticketSize_5 : decode cX4_ticketSize 5 = .ok (.invokevirtual 131, 3) := by decide +kernel
theorem dX4_ticketSize_8 : decode cX4_ticketSize 8 = .ok (.ireturn, 1) := by decide +kernel
theorem dX4_mergedInto_0 : decode cX4_mergedInto 0 = .ok (.aload_n 0, 1) := by decide +kernel
theorem dX4_mergedInto_1 : decode cX4_mergedInto 1 = .ok (.getfield 26, 3) := by decide +kernel
theorem dX4_mergedInto_4 : decode cX4_mergedInto 4 = .ok (.iload_n 1, 1) := by decide +kernel
theorem dX4_mergedInto_5 : decode cX4_mergedInto 5 = .ok (.invokevirtual 134, 3) := by decide +kernel
theorem dX4_mergedInto_8 : decode cX4_mergedInto 8 = .ok (.ireturn, 1) := by decide +kernel
theorem dX4_isPlausible_0 : decode cX4_isPlausible 0 = .ok (.iload_n 1, 1) := by decide +kernel
theorem dX4_isPlausible_1 : decode cX4_isPlausible 1 = .ok (.invokestatic 37, 3) := by decide +kernel
theorem dX4_isPlausible_4 : decode cX4_isPlausible 4 = .ok (.aload_n 0, 1) := by decide +kernel
theorem dX4_isPlausible_5 : decode cX4_isPlausible 5 = .ok (.invokevirtual 137, 3) := by decide +kernel
theorem dX4_isPlausible_8 : decode cX4_isPlausible 8 = .ok (.invokevirtual 141, 3) := by decide +kernel
theorem dX4_isPlausible_11 : decode cX4_isPlausible 11 = .ok (.iload_n 1, 1) := by decide +kernel
theorem dX4_isPlausible_12 : decode cX4_isPlausible 12 = .ok (.invokestatic 45, 3) := by decide +kernel
theorem dX4_isPlausible_15 : decode cX4_isPlausible 15 = .ok (.ireturn, 1) := by decide +kernel
theorem dX4_causes_0 : decode cX4_causes 0 = .ok (.aload_n 0, 1) := by decide +kernel
theorem dX4_causes_1 : decode cX4_causes 1 = .ok (.invokevirtual 137, 3) := by decide +kernel
theorem dX4_causes_4 : decode cX4_causes 4 = .ok (.invokevirtual 146, 3) := by decide +kernel
theorem dX4_causes_7 : decode cX4_causes 7 = .ok (.invokestatic 149, 3) := by decide +kernel
theorem dX4_causes_10 : decode cX4_causes 10 = .ok (.ireturn, 1) := by decide +kernel
theorem dX4_cause_0 : decode cX4_cause 0 = .ok (.aload_n 0, 1) := by decide +kernel
theorem dX4_cause_1 : decode cX4_cause 1 = .ok (.invokevirtual 137, 3) := by decide +kernel
theorem dX4_cause_4 : decode cX4_cause 4 = .ok (.invokevirtual 146, 3) := by decide +kernel
theorem dX4_cause_7 : decode cX4_cause 7 = .ok (.iload_n 1, 1) := by decide +kernel
theorem dX4_cause_8 : decode cX4_cause 8 = .ok (.invokestatic 154, 3) := by decide +kernel
theorem dX4_cause_11 : decode cX4_cause 11 = .ok (.ireturn, 1) := by decide +kernel
theorem dX4_causeByTrying_0 : decode cX4_causeByTrying 0 = .ok (.aload_n 0, 1) := by decide +kernel
theorem dX4_causeByTrying_1 : decode cX4_causeByTrying 1 = .ok (.invokevirtual 137, 3) := by decide +kernel
theorem dX4_causeByTrying_4 : decode cX4_causeByTrying 4 = .ok (.invokevirtual 157, 3) := by decide +kernel
theorem dX4_causeByTrying_7 : decode cX4_causeByTrying 7 = .ok (.iload_n 1, 1) := by decide +kernel
theorem dX4_causeByTrying_8 : decode cX4_causeByTrying 8 = .ok (.invokestatic 154, 3) := by decide +kernel
theorem dX4_causeByTrying_11 : decode cX4_causeByTrying 11 = .ok (.ireturn, 1) := by decide +kernel
theorem dX4_greedyCauses_0 : decode cX4_greedyCauses 0 = .ok (.aload_n 0, 1) := by decide +kernel
theorem dX4_greedyCauses_1 : decode cX4_greedyCauses 1 = .ok (.invokevirtual 137, 3) := by decide +kernel
theorem dX4_greedyCauses_4 : decode cX4_greedyCauses 4 = .ok (.invokevirtual 160, 3) := by decide +kernel
theorem dX4_greedyCauses_7 : decode cX4_greedyCauses 7 = .ok (.ireturn, 1) := by decide +kernel
theorem dX4_greedyCause_0 : decode cX4_greedyCause 0 = .ok (.aload_n 0, 1) := by decide +kernel
theorem dX4_greedyCause_1 : decode cX4_greedyCause 1 = .ok (.invokevirtual 137, 3) := by decide +kernel
theorem dX4_greedyCause_4 : decode cX4_greedyCause 4 = .ok (.iload_n 1, 1) := by decide +kernel
theorem dX4_greedyCause_5 : decode cX4_greedyCause 5 = .ok (.invokevirtual 163, 3) := by decide +kernel
theorem dX4_greedyCause_8 : decode cX4_greedyCause 8 = .ok (.istore_n 2, 1) := by decide +kernel
theorem dX4_greedyCause_9 : decode cX4_greedyCause 9 = .ok (.iload_n 2, 1) := by decide +kernel
theorem dX4_greedyCause_10 : decode cX4_greedyCause 10 = .ok (.iconst (-1), 1) := by decide +kernel
theorem dX4_greedyCause_11 : decode cX4_greedyCause 11 = .ok (.if_icmp .ne 13, 3) := by decide +kernel
theorem dX4_greedyCause_14 : decode cX4_greedyCause 14 = .ok (.new 166, 3) := by decide +kernel
theorem dX4_greedyCause_17 : decode cX4_greedyCause 17 = .ok (.dup, 1) := by decide +kernel
theorem dX4_greedyCause_18 : decode cX4_greedyCause 18 = .ok (.ldc 168, 2) := by decide +kernel
theorem dX4_greedyCause_20 : decode cX4_greedyCause 20 = .ok (.invokespecial 170, 3) := by decide +kernel
theorem dX4_greedyCause_23 : decode cX4_greedyCause 23 = .ok (.athrow, 1) := by decide +kernel
theorem dX4_greedyCause_24 : decode cX4_greedyCause 24 = .ok (.iload_n 2, 1) := by decide +kernel
theorem dX4_greedyCause_25 : decode cX4_greedyCause 25 = .ok (.ireturn, 1) := by decide +kernel
theorem dX4_causeOf_0 : decode cX4_causeOf 0 = .ok (.iload_n 1, 1) := by decide +kernel
theorem dX4_causeOf_1 : decode cX4_causeOf 1 = .ok (.invokestatic 37, 3) := by decide +kernel
theorem dX4_causeOf_4 : decode cX4_causeOf 4 = .ok (.aload_n 0, 1) := by decide +kernel
theorem dX4_causeOf_5 : decode cX4_causeOf 5 = .ok (.getfield 30, 3) := by decide +kernel
theorem dX4_causeOf_8 : decode cX4_causeOf 8 = .ok (.iload_n 1, 1) := by decide +kernel
theorem dX4_causeOf_9 : decode cX4_causeOf 9 = .ok (.invokestatic 45, 3) := by decide +kernel
theorem dX4_causeOf_12 : decode cX4_causeOf 12 = .ok (.ifCond .ne 5, 3) := by decide +kernel
theorem dX4_causeOf_15 : decode cX4_causeOf 15 = .ok (.iconst (-1), 1) := by decide +kernel
theorem dX4_causeOf_16 : decode cX4_causeOf 16 = .ok (.ireturn, 1) := by decide +kernel
theorem dX4_causeOf_17 : decode cX4_causeOf 17 = .ok (.aload_n 0, 1) := by decide +kernel
theorem dX4_causeOf_18 : decode cX4_causeOf 18 = .ok (.invokevirtual 137, 3) := by decide +kernel
theorem dX4_causeOf_21 : decode cX4_causeOf 21 = .ok (.invokevirtual 146, 3) := by decide +kernel
theorem dX4_causeOf_24 : decode cX4_causeOf 24 = .ok (.aload_n 0, 1) := by decide +kernel
theorem dX4_causeOf_25 : decode cX4_causeOf 25 = .ok (.getfield 10, 3) := by decide +kernel
theorem dX4_causeOf_28 : decode cX4_causeOf 28 = .ok (.iload_n 1, 1) := by decide +kernel
theorem dX4_causeOf_29 : decode cX4_causeOf 29 = .ok (.invokevirtual 171, 3) := by decide +kernel
theorem dX4_causeOf_32 : decode cX4_causeOf 32 = .ok (.iand, 1) := by decide +kernel
theorem dX4_causeOf_33 : decode cX4_causeOf 33 = .ok (.iconst 0, 1) := by decide +kernel
theorem dX4_causeOf_34 : decode cX4_causeOf 34 = .ok (.invokestatic 174, 3) := by decide +kernel
theorem dX4_causeOf_37 : decode cX4_causeOf 37 = .ok (.ireturn, 1) := by decide +kernel
theorem dX4_diagnoser_0 : decode cX4_diagnoser 0 = .ok (.new 142, 3) := by decide +kernel
theorem dX4_diagnoser_3 : decode cX4_diagnoser 3 = .ok (.dup, 1) := by decide +kernel
theorem dX4_diagnoser_4 : decode cX4_diagnoser 4 = .ok (.aload_n 0, 1) := by decide +kernel
theorem dX4_diagnoser_5 : decode cX4_diagnoser 5 = .ok (.getfield 10, 3) := by decide +kernel
theorem dX4_diagnoser_8 : decode cX4_diagnoser 8 = .ok (.aload_n 0, 1) := by decide +kernel
theorem dX4_diagnoser_9 : decode cX4_diagnoser 9 = .ok (.getfield 30, 3) := by decide +kernel
theorem dX4_diagnoser_12 : decode cX4_diagnoser 12 = .ok (.invokespecial 177, 3) := by decide +kernel
theorem dX4_diagnoser_15 : decode cX4_diagnoser 15 = .ok (.areturn, 1) := by decide +kernel
theorem dX4_checkNode_0 : decode cX4_checkNode 0 = .ok (.iload_n 0, 1) := by decide +kernel
theorem dX4_checkNode_1 : decode cX4_checkNode 1 = .ok (.ifCond .lt 9, 3) := by decide +kernel
theorem dX4_checkNode_4 : decode cX4_checkNode 4 = .ok (.iload_n 0, 1) := by decide +kernel
theorem dX4_checkNode_5 : decode cX4_checkNode 5 = .ok (.bipush 14, 2) := by decide +kernel
theorem dX4_checkNode_7 : decode cX4_checkNode 7 = .ok (.if_icmp .lt 13, 3) := by decide +kernel
theorem dX4_checkNode_10 : decode cX4_checkNode 10 = .ok (.new 166, 3) := by decide +kernel
theorem dX4_checkNode_13 : decode cX4_checkNode 13 = .ok (.dup, 1) := by decide +kernel
theorem dX4_checkNode_14 : decode cX4_checkNode 14 = .ok (.ldc 180, 2) := by decide +kernel
theorem dX4_checkNode_16 : decode cX4_checkNode 16 = .ok (.invokespecial 170, 3) := by decide +kernel
theorem dX4_checkNode_19 : decode cX4_checkNode 19 = .ok (.athrow, 1) := by decide +kernel
theorem dX4_checkNode_20 : decode cX4_checkNode 20 = .ok (.return_, 1) := by decide +kernel
theorem dX4_checkTicks_0 : decode cX4_checkTicks 0 = .ok (.iload_n 0, 1) := by decide +kernel
theorem dX4_checkTicks_1 : decode cX4_checkTicks 1 = .ok (.iconst 1, 1) := by decide +kernel
theorem dX4_checkTicks_2 : decode cX4_checkTicks 2 = .ok (.if_icmp .lt 8, 3) := by decide +kernel
theorem dX4_checkTicks_5 : decode cX4_checkTicks 5 = .ok (.iload_n 0, 1) := by decide +kernel
theorem dX4_checkTicks_6 : decode cX4_checkTicks 6 = .ok (.iload_n 1, 1) := by decide +kernel
theorem dX4_checkTicks_7 : decode cX4_checkTicks 7 = .ok (.if_icmp .le 13, 3) := by decide +kernel
theorem dX4_checkTicks_10 : decode cX4_checkTicks 10 = .ok (.new 49, 3) := by decide +kernel
theorem dX4_checkTicks_13 : decode cX4_checkTicks 13 = .ok (.dup, 1) := by decide +kernel
theorem dX4_checkTicks_14 : decode cX4_checkTicks 14 = .ok (.ldc 182, 2) := by decide +kernel
theorem dX4_checkTicks_16 : decode cX4_checkTicks 16 = .ok (.invokespecial 53, 3) := by decide +kernel
theorem dX4_checkTicks_19 : decode cX4_checkTicks 19 = .ok (.athrow, 1) := by decide +kernel
theorem dX4_checkTicks_20 : decode cX4_checkTicks 20 = .ok (.return_, 1) := by decide +kernel
theorem dX4_checkChange_0 : decode cX4_checkChange 0 = .ok (.iload_n 1, 1) := by decide +kernel
theorem dX4_checkChange_1 : decode cX4_checkChange 1 = .ok (.ifCond .eq 13, 3) := by decide +kernel
theorem dX4_checkChange_4 : decode cX4_checkChange 4 = .ok (.aload_n 0, 1) := by decide +kernel
theorem dX4_checkChange_5 : decode cX4_checkChange 5 = .ok (.getfield 19, 3) := by decide +kernel
theorem dX4_checkChange_8 : decode cX4_checkChange 8 = .ok (.invokevirtual 184, 3) := by decide +kernel
theorem dX4_checkChange_11 : decode cX4_checkChange 11 = .ok (.ifCond .eq 13, 3) := by decide +kernel
theorem dX4_checkChange_14 : decode cX4_checkChange 14 = .ok (.new 188, 3) := by decide +kernel
theorem dX4_checkChange_17 : decode cX4_checkChange 17 = .ok (.dup, 1) := by decide +kernel
theorem dX4_checkChange_18 : decode cX4_checkChange 18 = .ok (.ldc 190, 2) := by decide +kernel
theorem dX4_checkChange_20 : decode cX4_checkChange 20 = .ok (.invokespecial 192, 3) := by decide +kernel
theorem dX4_checkChange_23 : decode cX4_checkChange 23 = .ok (.athrow, 1) := by decide +kernel
theorem dX4_checkChange_24 : decode cX4_checkChange 24 = .ok (.return_, 1) := by decide +kernel
theorem dX4_checkEvent_0 : decode cX4_checkEvent 0 = .ok (.iload_n 1, 1) := by decide +kernel
theorem dX4_checkEvent_1 : decode cX4_checkEvent 1 = .ok (.ifCond .lt 14, 3) := by decide +kernel
theorem dX4_checkEvent_4 : decode cX4_checkEvent 4 = .ok (.iload_n 1, 1) := by decide +kernel
theorem dX4_checkEvent_5 : decode cX4_checkEvent 5 = .ok (.aload_n 0, 1) := by decide +kernel
theorem dX4_checkEvent_6 : decode cX4_checkEvent 6 = .ok (.getfield 19, 3) := by decide +kernel
theorem dX4_checkEvent_9 : decode cX4_checkEvent 9 = .ok (.invokevirtual 103, 3) := by decide +kernel
theorem dX4_checkEvent_12 : decode cX4_checkEvent 12 = .ok (.if_icmp .lt 13, 3) := by decide +kernel
theorem dX4_checkEvent_15 : decode cX4_checkEvent 15 = .ok (.new 166, 3) := by decide +kernel
theorem dX4_checkEvent_18 : decode cX4_checkEvent 18 = .ok (.dup, 1) := by decide +kernel
theorem dX4_checkEvent_19 : decode cX4_checkEvent 19 = .ok (.ldc 193, 2) := by decide +kernel
theorem dX4_checkEvent_21 : decode cX4_checkEvent 21 = .ok (.invokespecial 170, 3) := by decide +kernel
theorem dX4_checkEvent_24 : decode cX4_checkEvent 24 = .ok (.athrow, 1) := by decide +kernel
theorem dX4_checkEvent_25 : decode cX4_checkEvent 25 = .ok (.return_, 1) := by decide +kernel
theorem dX4_nodeThere_0 : decode cX4_nodeThere 0 = .ok (.iload_n 0, 1) := by decide +kernel
theorem dX4_nodeThere_1 : decode cX4_nodeThere 1 = .ok (.iload_n 1, 1) := by decide +kernel
theorem dX4_nodeThere_2 : decode cX4_nodeThere 2 = .ok (.invokestatic 174, 3) := by decide +kernel
theorem dX4_nodeThere_5 : decode cX4_nodeThere 5 = .ok (.istore_n 2, 1) := by decide +kernel
theorem dX4_nodeThere_6 : decode cX4_nodeThere 6 = .ok (.iload_n 2, 1) := by decide +kernel
theorem dX4_nodeThere_7 : decode cX4_nodeThere 7 = .ok (.iconst (-1), 1) := by decide +kernel
theorem dX4_nodeThere_8 : decode cX4_nodeThere 8 = .ok (.if_icmp .ne 13, 3) := by decide +kernel
theorem dX4_nodeThere_11 : decode cX4_nodeThere 11 = .ok (.new 166, 3) := by decide +kernel
theorem dX4_nodeThere_14 : decode cX4_nodeThere 14 = .ok (.dup, 1) := by decide +kernel
theorem dX4_nodeThere_15 : decode cX4_nodeThere 15 = .ok (.ldc 168, 2) := by decide +kernel
theorem dX4_nodeThere_17 : decode cX4_nodeThere 17 = .ok (.invokespecial 170, 3) := by decide +kernel
theorem dX4_nodeThere_20 : decode cX4_nodeThere 20 = .ok (.athrow, 1) := by decide +kernel
theorem dX4_nodeThere_21 : decode cX4_nodeThere 21 = .ok (.iload_n 2, 1) := by decide +kernel
theorem dX4_nodeThere_22 : decode cX4_nodeThere 22 = .ok (.ireturn, 1) := by decide +kernel
theorem dX4_only_0 : decode cX4_only 0 = .ok (.iconst 1, 1) := by decide +kernel
theorem dX4_only_1 : decode cX4_only 1 = .ok (.iload_n 0, 1) := by decide +kernel
theorem dX4_only_2 : decode cX4_only 2 = .ok (.ishl, 1) := by decide +kernel
theorem dX4_only_3 : decode cX4_only 3 = .ok (.ireturn, 1) := by decide +kernel
theorem dX4_has_0 : decode cX4_has 0 = .ok (.iload_n 0, 1) := by decide +kernel
theorem dX4_has_1 : decode cX4_has 1 = .ok (.iload_n 1, 1) := by decide +kernel
theorem dX4_has_2 : decode cX4_has 2 = .ok (.invokestatic 82, 3) := by decide +kernel
theorem dX4_has_5 : decode cX4_has 5 = .ok (.iand, 1) := by decide +kernel
theorem dX4_has_6 : decode cX4_has 6 = .ok (.ifCond .eq 7, 3) := by decide +kernel
theorem dX4_has_9 : decode cX4_has 9 = .ok (.iconst 1, 1) := by decide +kernel
theorem dX4_has_10 : decode cX4_has 10 = .ok (.goto 4, 3) := by decide +kernel
theorem dX4_has_13 : decode cX4_has 13 = .ok (.iconst 0, 1) := by decide +kernel
theorem dX4_has_14 : decode cX4_has 14 = .ok (.ireturn, 1) := by decide +kernel
theorem dX4_nodeAtPlace_0 : decode cX4_nodeAtPlace 0 = .ok (.iconst 0, 1) := by decide +kernel
theorem dX4_nodeAtPlace_1 : decode cX4_nodeAtPlace 1 = .ok (.istore_n 2, 1) := by decide +kernel
theorem dX4_nodeAtPlace_2 : decode cX4_nodeAtPlace 2 = .ok (.iconst 0, 1) := by decide +kernel
theorem dX4_nodeAtPlace_3 : decode cX4_nodeAtPlace 3 = .ok (.istore_n 3, 1) := by decide +kernel
theorem dX4_nodeAtPlace_4 : decode cX4_nodeAtPlace 4 = .ok (.iload_n 3, 1) := by decide +kernel
theorem dX4_nodeAtPlace_5 : decode cX4_nodeAtPlace 5 = .ok (.bipush 14, 2) := by decide +kernel
theorem dX4_nodeAtPlace_7 : decode cX4_nodeAtPlace 7 = .ok (.if_icmp .ge 27, 3) := by decide +kernel
theorem dX4_nodeAtPlace_10 : decode cX4_nodeAtPlace 10 = .ok (.iload_n 0, 1) := by decide +kernel
theorem dX4_nodeAtPlace_11 : decode cX4_nodeAtPlace 11 = .ok (.iload_n 3, 1) := by decide +kernel
theorem dX4_nodeAtPlace_12 : decode cX4_nodeAtPlace 12 = .ok (.invokestatic 45, 3) := by decide +kernel
theorem dX4_nodeAtPlace_15 : decode cX4_nodeAtPlace 15 = .ok (.ifCond .eq 13, 3) := by decide +kernel
theorem dX4_nodeAtPlace_18 : decode cX4_nodeAtPlace 18 = .ok (.iload_n 2, 1) := by decide +kernel
theorem dX4_nodeAtPlace_19 : decode cX4_nodeAtPlace 19 = .ok (.iload_n 1, 1) := by decide +kernel
theorem dX4_nodeAtPlace_20 : decode cX4_nodeAtPlace 20 = .ok (.if_icmp .ne 5, 3) := by decide +kernel
theorem dX4_nodeAtPlace_23 : decode cX4_nodeAtPlace 23 = .ok (.iload_n 3, 1) := by decide +kernel
theorem dX4_nodeAtPlace_24 : decode cX4_nodeAtPlace 24 = .ok (.ireturn, 1) := by decide +kernel
theorem dX4_nodeAtPlace_25 : decode cX4_nodeAtPlace 25 = .ok (.iinc 2 1, 3) := by decide +kernel
theorem dX4_nodeAtPlace_28 : decode cX4_nodeAtPlace 28 = .ok (.iinc 3 1, 3) := by decide +kernel
theorem dX4_nodeAtPlace_31 : decode cX4_nodeAtPlace 31 = .ok (.goto (-27), 3) := by decide +kernel
theorem dX4_nodeAtPlace_34 : decode cX4_nodeAtPlace 34 = .ok (.iconst (-1), 1) := by decide +kernel
theorem dX4_nodeAtPlace_35 : decode cX4_nodeAtPlace 35 = .ok (.ireturn, 1) := by decide +kernel
theorem dX5_init_0 : decode cX5_init 0 = .ok (.aload_n 0, 1) := by decide +kernel
theorem dX5_init_1 : decode cX5_init 1 = .ok (.invokespecial 1, 3) := by decide +kernel
theorem dX5_init_4 : decode cX5_init 4 = .ok (.aload_n 0, 1) := by decide +kernel
theorem dX5_init_5 : decode cX5_init 5 = .ok (.bipush 14, 2) := by decide +kernel
theorem dX5_init_7 : decode cX5_init 7 = .ok (.newarray .int, 2) := by decide +kernel
theorem dX5_init_9 : decode cX5_init 9 = .ok (.putfield 7, 3) := by decide +kernel
theorem dX5_init_12 : decode cX5_init 12 = .ok (.aload_n 0, 1) := by decide +kernel
theorem dX5_init_13 : decode cX5_init 13 = .ok (.bipush 14, 2) := by decide +kernel
theorem dX5_init_15 : decode cX5_init 15 = .ok (.newarray .int, 2) := by decide +kernel
theorem dX5_init_17 : decode cX5_init 17 = .ok (.putfield 13, 3) := by decide +kernel
theorem dX5_init_20 : decode cX5_init 20 = .ok (.aload_n 0, 1) := by decide +kernel
theorem dX5_init_21 : decode cX5_init 21 = .ok (.bipush 14, 2) := by decide +kernel
theorem dX5_init_23 : decode cX5_init 23 = .ok (.newarray .int, 2) := by decide +kernel
theorem dX5_init_25 : decode cX5_init 25 = .ok (.putfield 16, 3) := by decide +kernel
theorem dX5_init_28 : decode cX5_init 28 = .ok (.aload_n 0, 1) := by decide +kernel
theorem dX5_init_29 : decode cX5_init 29 = .ok (.bipush 14, 2) := by decide +kernel
theorem dX5_init_31 : decode cX5_init 31 = .ok (.newarray .int, 2) := by decide +kernel
theorem dX5_init_33 : decode cX5_init 33 = .ok (.putfield 19, 3) := by decide +kernel
theorem dX5_init_36 : decode cX5_init 36 = .ok (.aload_n 0, 1) := by decide +kernel
theorem dX5_init_37 : decode cX5_init 37 = .ok (.sipush 302, 3) := by decide +kernel
theorem dX5_init_40 : decode cX5_init 40 = .ok (.newarray .int, 2) := by decide +kernel
theorem dX5_init_42 : decode cX5_init 42 = .ok (.putfield 22, 3) := by decide +kernel
theorem dX5_init_45 : decode cX5_init 45 = .ok (.aload_n 0, 1) := by decide +kernel
theorem dX5_init_46 : decode cX5_init 46 = .ok (.sipush 302, 3) := by decide +kernel
theorem dX5_init_49 : decode cX5_init 49 = .ok (.newarray .int, 2) := by decide +kernel
theorem dX5_init_51 : decode cX5_init 51 = .ok (.putfield 25, 3) := by decide +kernel
theorem dX5_init_54 : decode cX5_init 54 = .ok (.aload_n 0, 1) := by decide +kernel
theorem dX5_init_55 : decode cX5_init 55 = .ok (.sipush 302, 3) := by decide +kernel
theorem dX5_init_58 : decode cX5_init 58 = .ok (.newarray .int, 2) := by decide +kernel
theorem dX5_init_60 : decode cX5_init 60 = .ok (.putfield 28, 3) := by decide +kernel
theorem dX5_init_63 : decode cX5_init 63 = .ok (.aload_n 0, 1) := by decide +kernel
theorem dX5_init_64 : decode cX5_init 64 = .ok (.sipush 300, 3) := by decide +kernel
theorem dX5_init_67 : decode cX5_init 67 = .ok (.newarray .int, 2) := by decide +kernel
theorem dX5_init_69 : decode cX5_init 69 = .ok (.putfield 31, 3) := by decide +kernel
theorem dX5_init_72 : decode cX5_init 72 = .ok (.aload_n 0, 1) := by decide +kernel
theorem dX5_init_73 : decode cX5_init 73 = .ok (.sipush 300, 3) := by decide +kernel
theorem dX5_init_76 : decode cX5_init 76 = .ok (.newarray .int, 2) := by decide +kernel
theorem dX5_init_78 : decode cX5_init 78 = .ok (.putfield 34, 3) := by decide +kernel
theorem dX5_init_81 : decode cX5_init 81 = .ok (.aload_n 0, 1) := by decide +kernel
theorem dX5_init_82 : decode cX5_init 82 = .ok (.sipush 300, 3) := by decide +kernel
theorem dX5_init_85 : decode cX5_init 85 = .ok (.newarray .int, 2) := by decide +kernel
theorem dX5_init_87 : decode cX5_init 87 = .ok (.putfield 37, 3) := by decide +kernel
theorem dX5_init_90 : decode cX5_init 90 = .ok (.aload_n 0, 1) := by decide +kernel
theorem dX5_init_91 : decode cX5_init 91 = .ok (.sipush 300, 3) := by decide +kernel
theorem dX5_init_94 : decode cX5_init 94 = .ok (.newarray .int, 2) := by decide +kernel
theorem dX5_init_96 : decode cX5_init 96 = .ok (.putfield 40, 3) := by decide +kernel
theorem dX5_init_99 : decode cX5_init 99 = .ok (.return_, 1) := by decide +kernel
theorem dX5_thrown_0 : decode cX5_thrown 0 = .ok (.aload_n 0, 1) := by decide +kernel
theorem dX5_thrown_1 : decode cX5_thrown 1 = .ok (.getfield 43, 3) := by decide +kernel
theorem dX5_thrown_4 : decode cX5_thrown 4 = .ok (.ireturn, 1) := by decide +kernel
theorem dX5_goes_0 : decode cX5_goes 0 = .ok (.aload_n 0, 1) := by decide +kernel
theorem dX5_goes_1 : decode cX5_goes 1 = .ok (.iload_n 1, 1) := by decide +kernel
theorem dX5_goes_2 : decode cX5_goes 2 = .ok (.ifCond .ne 7, 3) := by decide +kernel
theorem dX5_goes_5 : decode cX5_goes 5 = .ok (.iconst 1, 1) := by decide +kernel
theorem dX5_goes_6 : decode cX5_goes 6 = .ok (.goto 12, 3) := by decide +kernel
theorem dX5_goes_9 : decode cX5_goes 9 = .ok (.iload_n 2, 1) := by decide +kernel
theorem dX5_goes_10 : decode cX5_goes 10 = .ok (.ifCond .ne 7, 3) := by decide +kernel
theorem dX5_goes_13 : decode cX5_goes 13 = .ok (.iconst 2, 1) := by decide +kernel
theorem dX5_goes_14 : decode cX5_goes 14 = .ok (.goto 4, 3) := by decide +kernel
theorem dX5_goes_17 : decode cX5_goes 17 = .ok (.iconst 0, 1) := by decide +kernel
theorem dX5_goes_18 : decode cX5_goes 18 = .ok (.putfield 43, 3) := by decide +kernel
theorem dX5_goes_21 : decode cX5_goes 21 = .ok (.aload_n 0, 1) := by decide +kernel
theorem dX5_goes_22 : decode cX5_goes 22 = .ok (.getfield 43, 3) := by decide +kernel
theorem dX5_goes_25 : decode cX5_goes 25 = .ok (.ifCond .ne 7, 3) := by decide +kernel
theorem dX5_goes_28 : decode cX5_goes 28 = .ok (.iconst 1, 1) := by decide +kernel
theorem dX5_goes_29 : decode cX5_goes 29 = .ok (.goto 4, 3) := by decide +kernel
theorem dX5_goes_32 : decode cX5_goes 32 = .ok (.iconst 0, 1) := by decide +kernel
theorem dX5_goes_33 : decode cX5_goes 33 = .ok (.ireturn, 1) := by decide +kernel
theorem dX5_isNode_0 : decode cX5_isNode 0 = .ok (.iload_n 0, 1) := by decide +kernel
theorem dX5_isNode_1 : decode cX5_isNode 1 = .ok (.ifCond .lt 13, 3) := by decide +kernel
theorem dX5_isNode_4 : decode cX5_isNode 4 = .ok (.iload_n 0, 1) := by decide +kernel
theorem dX5_isNode_5 : decode cX5_isNode 5 = .ok (.bipush 14, 2) := by decide +kernel
theorem dX5_isNode_7 : decode cX5_isNode 7 = .ok (.if_icmp .ge 7, 3) := by decide +kernel
theorem dX5_isNode_10 : decode cX5_isNode 10 = .ok (.iconst 1, 1) := by decide +kernel
theorem dX5_isNode_11 : decode cX5_isNode 11 = .ok (.goto 4, 3) := by decide +kernel
theorem dX5_isNode_14 : decode cX5_isNode 14 = .ok (.iconst 0, 1) := by decide +kernel
theorem dX5_isNode_15 : decode cX5_isNode 15 = .ok (.ireturn, 1) := by decide +kernel
theorem dX5_has_0 : decode cX5_has 0 = .ok (.iload_n 0, 1) := by decide +kernel
theorem dX5_has_1 : decode cX5_has 1 = .ok (.iload_n 1, 1) := by decide +kernel
theorem dX5_has_2 : decode cX5_has 2 = .ok (.ishr, 1) := by decide +kernel
theorem dX5_has_3 : decode cX5_has 3 = .ok (.iconst 1, 1) := by decide +kernel
theorem dX5_has_4 : decode cX5_has 4 = .ok (.iand, 1) := by decide +kernel
theorem dX5_has_5 : decode cX5_has 5 = .ok (.iconst 1, 1) := by decide +kernel
theorem dX5_has_6 : decode cX5_has 6 = .ok (.if_icmp .ne 7, 3) := by decide +kernel
theorem dX5_has_9 : decode cX5_has 9 = .ok (.iconst 1, 1) := by decide +kernel
theorem dX5_has_10 : decode cX5_has 10 = .ok (.goto 4, 3) := by decide +kernel
theorem dX5_has_13 : decode cX5_has 13 = .ok (.iconst 0, 1) := by decide +kernel
theorem dX5_has_14 : decode cX5_has 14 = .ok (.ireturn, 1) := by decide +kernel
theorem dX5_count_0 : decode cX5_count 0 = .ok (.iconst 0, 1) := by decide +kernel
theorem dX5_count_1 : decode cX5_count 1 = .ok (.istore_n 1, 1) := by decide +kernel
theorem dX5_count_2 : decode cX5_count 2 = .ok (.iconst 0, 1) := by decide +kernel
theorem dX5_count_3 : decode cX5_count 3 = .ok (.istore_n 2, 1) := by decide +kernel
theorem dX5_count_4 : decode cX5_count 4 = .ok (.iload_n 2, 1) := by decide +kernel
theorem dX5_count_5 : decode cX5_count 5 = .ok (.bipush 14, 2) := by decide +kernel
theorem dX5_count_7 : decode cX5_count 7 = .ok (.if_icmp .ge 17, 3) := by decide +kernel
theorem dX5_count_10 : decode cX5_count 10 = .ok (.iload_n 1, 1) := by decide +kernel
theorem dX5_count_11 : decode cX5_count 11 = .ok (.iload_n 0, 1) := by decide +kernel
theorem dX5_count_12 : decode cX5_count 12 = .ok (.iload_n 2, 1) := by decide +kernel
theorem dX5_count_13 : decode cX5_count 13 = .ok (.ishr, 1) := by decide +kernel
theorem dX5_count_14 : decode cX5_count 14 = .ok (.iconst 1, 1) := by decide +kernel
theorem dX5_count_15 : decode cX5_count 15 = .ok (.iand, 1) := by decide +kernel
theorem dX5_count_16 : decode cX5_count 16 = .ok (.iadd, 1) := by decide +kernel
theorem dX5_count_17 : decode cX5_count 17 = .ok (.istore_n 1, 1) := by decide +kernel
theorem dX5_count_18 : decode cX5_count 18 = .ok (.iinc 2 1, 3) := by decide +kernel
theorem dX5_count_21 : decode cX5_count 21 = .ok (.goto (-17), 3) := by decide +kernel
theorem dX5_count_24 : decode cX5_count 24 = .ok (.iload_n 1, 1) := by decide +kernel
theorem dX5_count_25 : decode cX5_count 25 = .ok (.ireturn, 1) := by decide +kernel
theorem dX5_at_0 : decode cX5_at 0 = .ok (.iload_n 1, 1) := by decide +kernel
theorem dX5_at_1 : decode cX5_at 1 = .ok (.istore_n 2, 1) := by decide +kernel
theorem dX5_at_2 : decode cX5_at 2 = .ok (.iconst (-1), 1) := by decide +kernel
theorem dX5_at_3 : decode cX5_at 3 = .ok (.istore_n 3, 1) := by decide +kernel
theorem dX5_at_4 : decode cX5_at 4 = .ok (.iconst 0, 1) := by decide +kernel
theorem dX5_at_5 : decode cX5_at 5 = .ok (.istore 4, 2) := by decide +kernel
theorem dX5_at_7 : decode cX5_at 7 = .ok (.iload 4, 2) := by decide +kernel
theorem dX5_at_9 : decode cX5_at 9 = .ok (.bipush 14, 2) := by decide +kernel
theorem dX5_at_11 : decode cX5_at 11 = .ok (.if_icmp .ge 46, 3) := by decide +kernel
theorem dX5_at_14 : decode cX5_at 14 = .ok (.iload_n 0, 1) := by decide +kernel
theorem dX5_at_15 : decode cX5_at 15 = .ok (.iload 4, 2) := by decide +kernel
theorem dX5_at_17 : decode cX5_at 17 = .ok (.invokestatic 47, 3) := by decide +kernel
theorem dX5_at_20 : decode cX5_at 20 = .ok (.ifCond .eq 12, 3) := by decide +kernel
theorem dX5_at_23 : decode cX5_at 23 = .ok (.iload_n 2, 1) := by decide +kernel
theorem dX5_at_24 : decode cX5_at 24 = .ok (.ifCond .ne 8, 3) := by decide +kernel
theorem dX5_at_27 : decode cX5_at 27 = .ok (.iload 4, 2) := by decide +kernel
theorem dX5_at_29 : decode cX5_at 29 = .ok (.goto 4, 3) := by decide +kernel
theorem dX5_at_32 : decode cX5_at 32 = .ok (.iload_n 3, 1) := by decide +kernel
theorem dX5_at_33 : decode cX5_at 33 = .ok (.istore_n 3, 1) := by decide +kernel
theorem dX5_at_34 : decode cX5_at 34 = .ok (.iload_n 2, 1) := by decide +kernel
theorem dX5_at_35 : decode cX5_at 35 = .ok (.iload_n 0, 1) := by decide +kernel
theorem dX5_at_36 : decode cX5_at 36 = .ok (.iload 4, 2) := by decide +kernel
theorem dX5_at_38 : decode cX5_at 38 = .ok (.invokestatic 47, 3) := by decide +kernel
theorem dX5_at_41 : decode cX5_at 41 = .ok (.ifCond .eq 7, 3) := by decide +kernel
theorem dX5_at_44 : decode cX5_at 44 = .ok (.iconst 1, 1) := by decide +kernel
theorem dX5_at_45 : decode cX5_at 45 = .ok (.goto 4, 3) := by decide +kernel
theorem dX5_at_48 : decode cX5_at 48 = .ok (.iconst 0, 1) := by decide +kernel
theorem dX5_at_49 : decode cX5_at 49 = .ok (.isub, 1) := by decide +kernel
theorem dX5_at_50 : decode cX5_at 50 = .ok (.istore_n 2, 1) := by decide +kernel
theorem dX5_at_51 : decode cX5_at 51 = .ok (.iinc 4 1, 3) := by decide +kernel
theorem dX5_at_54 : decode cX5_at 54 = .ok (.goto (-47), 3) := by decide +kernel
theorem dX5_at_57 : decode cX5_at 57 = .ok (.iload_n 3, 1) := by decide +kernel
theorem dX5_at_58 : decode cX5_at 58 = .ok (.ireturn, 1) := by decide +kernel
theorem dX5_closes_0 : decode cX5_closes 0 = .ok (.iconst 0, 1) := by decide +kernel
theorem dX5_closes_1 : decode cX5_closes 1 = .ok (.istore_n 1, 1) := by decide +kernel
theorem dX5_closes_2 : decode cX5_closes 2 = .ok (.iload_n 1, 1) := by decide +kernel
theorem dX5_closes_3 : decode cX5_closes 3 = .ok (.bipush 14, 2) := by decide +kernel
theorem dX5_closes_5 : decode cX5_closes 5 = .ok (.if_icmp .ge 21, 3) := by decide +kernel
theorem dX5_closes_8 : decode cX5_closes 8 = .ok (.aload_n 0, 1) := by decide +kernel
theorem dX5_closes_9 : decode cX5_closes 9 = .ok (.getfield 13, 3) := by decide +kernel
theorem dX5_closes_12 : decode cX5_closes 12 = .ok (.iload_n 1, 1) := by decide +kernel
theorem dX5_closes_13 : decode cX5_closes 13 = .ok (.aload_n 0, 1) := by decide +kernel
theorem dX5_closes_14 : decode cX5_closes 14 = .ok (.getfield 7, 3) := by decide +kernel
theorem dX5_closes_17 : decode cX5_closes 17 = .ok (.iload_n 1, 1) := by decide +kernel
theorem dX5_closes_18 : decode cX5_closes 18 = .ok (.iaload, 1) := by decide +kernel
theorem dX5_closes_19 : decode cX5_closes 19 = .ok (.iastore, 1) := by decide +kernel
theorem dX5_closes_20 : decode cX5_closes 20 = .ok (.iinc 1 1, 3) := by decide +kernel
theorem dX5_closes_23 : decode cX5_closes 23 = .ok (.goto (-21), 3) := by decide +kernel
theorem dX5_closes_26 : decode cX5_closes 26 = .ok (.iconst 0, 1) := by decide +kernel
theorem dX5_closes_27 : decode cX5_closes 27 = .ok (.istore_n 1, 1) := by decide +kernel
theorem dX5_closes_28 : decode cX5_closes 28 = .ok (.iload_n 1, 1) := by decide +kernel
theorem dX5_closes_29 : decode cX5_closes 29 = .ok (.bipush 14, 2) := by decide +kernel
theorem dX5_closes_31 : decode cX5_closes 31 = .ok (.if_icmp .ge 69, 3) := by decide +kernel
theorem dX5_closes_34 : decode cX5_closes 34 = .ok (.iconst 0, 1) := by decide +kernel
theorem dX5_closes_35 : decode cX5_closes 35 = .ok (.istore_n 2, 1) := by decide +kernel
theorem dX5_closes_36 : decode cX5_closes 36 = .ok (.iload_n 2, 1) := by decide +kernel
theorem dX5_closes_37 : decode cX5_closes 37 = .ok (.bipush 14, 2) := by decide +kernel
theorem dX5_closes_39 : decode cX5_closes 39 = .ok (.if_icmp .ge 55, 3) := by decide +kernel
theorem dX5_closes_42 : decode cX5_closes 42 = .ok (.iconst 0, 1) := by decide +kernel
theorem dX5_closes_43 : decode cX5_closes 43 = .ok (.istore_n 3, 1) := by decide +kernel
theorem dX5_closes_44 : decode cX5_closes 44 = .ok (.iload_n 3, 1) := by decide +kernel
theorem dX5_closes_45 : decode cX5_closes 45 = .ok (.bipush 14, 2) := by decide +kernel
theorem dX5_closes_47 : decode cX5_closes 47 = .ok (.if_icmp .ge 41, 3) := by decide +kernel
theorem dX5_closes_50 : decode cX5_closes 50 = .ok (.aload_n 0, 1) := by decide +kernel
theorem dX5_closes_51 : decode cX5_closes 51 = .ok (.getfield 13, 3) := by decide +kernel
theorem dX5_closes_54 : decode cX5_closes 54 = .ok (.iload_n 2, 1) := by decide +kernel
theorem dX5_closes_55 : decode cX5_closes 55 = .ok (.dup2, 1) := by decide +kernel
theorem dX5_closes_56 : decode cX5_closes 56 = .ok (.iaload, 1) := by decide +kernel
theorem dX5_closes_57 : decode cX5_closes 57 = .ok (.aload_n 0, 1) := by decide +kernel
theorem dX5_closes_58 : decode cX5_closes 58 = .ok (.getfield 13, 3) := by decide +kernel
theorem dX5_closes_61 : decode cX5_closes 61 = .ok (.iload_n 2, 1) := by decide +kernel
theorem dX5_closes_62 : decode cX5_closes 62 = .ok (.iaload, 1) := by decide +kernel
theorem dX5_closes_63 : decode cX5_closes 63 = .ok (.iload_n 3, 1) := by decide +kernel
theorem dX5_closes_64 : decode cX5_closes 64 = .ok (.invokestatic 47, 3) := by decide +kernel
theorem dX5_closes_67 : decode cX5_closes 67 = .ok (.ifCond .eq 12, 3) := by decide +kernel
theorem dX5_closes_70 : decode cX5_closes 70 = .ok (.aload_n 0, 1) := by decide +kernel
theorem dX5_closes_71 : decode cX5_closes 71 = .ok (.getfield 13, 3) := by decide +kernel
theorem dX5_closes_74 : decode cX5_closes 74 = .ok (.iload_n 3, 1) := by decide +kernel
theorem dX5_closes_75 : decode cX5_closes 75 = .ok (.iaload, 1) := by decide +kernel
theorem dX5_closes_76 : decode cX5_closes 76 = .ok (.goto 4, 3) := by decide +kernel
theorem dX5_closes_79 : decode cX5_closes 79 = .ok (.iconst 0, 1) := by decide +kernel
theorem dX5_closes_80 : decode cX5_closes 80 = .ok (.ior, 1) := by decide +kernel
theorem dX5_closes_81 : decode cX5_closes 81 = .ok (.iastore, 1) := by decide +kernel
theorem dX5_closes_82 : decode cX5_closes 82 = .ok (.iinc 3 1, 3) := by decide +kernel
theorem dX5_closes_85 : decode cX5_closes 85 = .ok (.goto (-41), 3) := by decide +kernel
theorem dX5_closes_88 : decode cX5_closes 88 = .ok (.iinc 2 1, 3) := by decide +kernel
theorem dX5_closes_91 : decode cX5_closes 91 = .ok (.goto (-55), 3) := by decide +kernel
theorem dX5_closes_94 : decode cX5_closes 94 = .ok (.iinc 1 1, 3) := by decide +kernel
theorem dX5_closes_97 : decode cX5_closes 97 = .ok (.goto (-69), 3) := by decide +kernel
theorem dX5_closes_100 : decode cX5_closes 100 = .ok (.return_, 1) := by decide +kernel
theorem dX5_need_0 : decode cX5_need 0 = .ok (.iload_n 1, 1) := by decide +kernel
theorem dX5_need_1 : decode cX5_need 1 = .ok (.invokestatic 51, 3) := by decide +kernel
theorem dX5_need_4 : decode cX5_need 4 = .ok (.ifCond .eq 14, 3) := by decide +kernel
theorem dX5_need_7 : decode cX5_need 7 = .ok (.iload_n 2, 1) := by decide +kernel
theorem dX5_need_8 : decode cX5_need 8 = .ok (.invokestatic 51, 3) := by decide +kernel
theorem dX5_need_11 : decode cX5_need 11 = .ok (.ifCond .eq 7, 3) := by decide +kernel
theorem dX5_need_14 : decode cX5_need 14 = .ok (.iconst 1, 1) := by decide +kernel
theorem dX5_need_15 : decode cX5_need 15 = .ok (.goto 4, 3) := by decide +kernel
theorem dX5_need_18 : decode cX5_need 18 = .ok (.iconst 0, 1) := by decide +kernel
theorem dX5_need_19 : decode cX5_need 19 = .ok (.istore_n 3, 1) := by decide +kernel
theorem dX5_need_20 : decode cX5_need 20 = .ok (.aload_n 0, 1) := by decide +kernel
theorem dX5_need_21 : decode cX5_need 21 = .ok (.iload_n 3, 1) := by decide +kernel
theorem dX5_need_22 : decode cX5_need 22 = .ok (.iload_n 3, 1) := by decide +kernel
theorem dX5_need_23 : decode cX5_need 23 = .ok (.ifCond .eq 25, 3) := by decide +kernel
theorem dX5_need_26 : decode cX5_need 26 = .ok (.iload_n 1, 1) := by decide +kernel
theorem dX5_need_27 : decode cX5_need 27 = .ok (.iload_n 2, 1) := by decide +kernel
theorem dX5_need_28 : decode cX5_need 28 = .ok (.if_icmp .eq 20, 3) := by decide +kernel
theorem dX5_need_31 : decode cX5_need 31 = .ok (.aload_n 0, 1) := by decide +kernel
theorem dX5_need_32 : decode cX5_need 32 = .ok (.getfield 13, 3) := by decide +kernel
theorem dX5_need_35 : decode cX5_need 35 = .ok (.iload_n 2, 1) := by decide +kernel
theorem dX5_need_36 : decode cX5_need 36 = .ok (.iaload, 1) := by decide +kernel
theorem dX5_need_37 : decode cX5_need 37 = .ok (.iload_n 1, 1) := by decide +kernel
theorem dX5_need_38 : decode cX5_need 38 = .ok (.invokestatic 47, 3) := by decide +kernel
theorem dX5_need_41 : decode cX5_need 41 = .ok (.ifCond .ne 7, 3) := by decide +kernel
theorem dX5_need_44 : decode cX5_need 44 = .ok (.iconst 1, 1) := by decide +kernel
theorem dX5_need_45 : decode cX5_need 45 = .ok (.goto 4, 3) := by decide +kernel
theorem dX5_need_48 : decode cX5_need 48 = .ok (.iconst 0, 1) := by decide +kernel
theorem dX5_need_49 : decode cX5_need 49 = .ok (.invokevirtual 55, 3) := by decide +kernel
theorem dX5_need_52 : decode cX5_need 52 = .ok (.ifCond .ne 5, 3) := by decide +kernel
theorem dX5_need_55 : decode cX5_need 55 = .ok (.iconst 0, 1) := by decide +kernel
theorem dX5_need_56 : decode cX5_need 56 = .ok (.ireturn, 1) := by decide +kernel
theorem dX5_need_57 : decode cX5_need 57 = .ok (.aload_n 0, 1) := by decide +kernel
theorem dX5_need_58 : decode cX5_need 58 = .ok (.getfield 7, 3) := by decide +kernel
theorem dX5_need_61 : decode cX5_need 61 = .ok (.iload_n 1, 1) := by decide +kernel
theorem dX5_need_62 : decode cX5_need 62 = .ok (.iaload, 1) := by decide +kernel
theorem dX5_need_63 : decode cX5_need 63 = .ok (.iload_n 2, 1) := by decide +kernel
theorem dX5_need_64 : decode cX5_need 64 = .ok (.invokestatic 47, 3) := by decide +kernel
theorem dX5_need_67 : decode cX5_need 67 = .ok (.ifCond .ne 7, 3) := by decide +kernel
theorem dX5_need_70 : decode cX5_need 70 = .ok (.iconst 1, 1) := by decide +kernel
theorem dX5_need_71 : decode cX5_need 71 = .ok (.goto 4, 3) := by decide +kernel
theorem dX5_need_74 : decode cX5_need 74 = .ok (.iconst 0, 1) := by decide +kernel
theorem dX5_need_75 : decode cX5_need 75 = .ok (.istore 4, 2) := by decide +kernel
theorem dX5_need_77 : decode cX5_need 77 = .ok (.aload_n 0, 1) := by decide +kernel
theorem dX5_need_78 : decode cX5_need 78 = .ok (.getfield 7, 3) := by decide +kernel
theorem dX5_need_81 : decode cX5_need 81 = .ok (.iload_n 1, 1) := by decide +kernel
theorem dX5_need_82 : decode cX5_need 82 = .ok (.dup2, 1) := by decide +kernel
theorem dX5_need_83 : decode cX5_need 83 = .ok (.iaload, 1) := by decide +kernel
theorem dX5_need_84 : decode cX5_need 84 = .ok (.iconst 1, 1) := by decide +kernel
theorem dX5_need_85 : decode cX5_need 85 = .ok (.iload_n 2, 1) := by decide +kernel
theorem dX5_need_86 : decode cX5_need 86 = .ok (.ishl, 1) := by decide +kernel
theorem dX5_need_87 : decode cX5_need 87 = .ok (.ior, 1) := by decide +kernel
theorem dX5_need_88 : decode cX5_need 88 = .ok (.iastore, 1) := by decide +kernel
theorem dX5_need_89 : decode cX5_need 89 = .ok (.aload_n 0, 1) := by decide +kernel
theorem dX5_need_90 : decode cX5_need 90 = .ok (.invokevirtual 59, 3) := by decide +kernel
theorem dX5_need_93 : decode cX5_need 93 = .ok (.iload 4, 2) := by decide +kernel
theorem dX5_need_95 : decode cX5_need 95 = .ok (.ireturn, 1) := by decide +kernel
theorem dX5_release_0 : decode cX5_release 0 = .ok (.aload_n 0, 1) := by decide +kernel
theorem dX5_release_1 : decode cX5_release 1 = .ok (.iload_n 1, 1) := by decide +kernel
theorem dX5_release_2 : decode cX5_release 2 = .ok (.invokestatic 51, 3) := by decide +kernel
theorem dX5_release_5 : decode cX5_release 5 = .ok (.ifCond .eq 14, 3) := by decide +kernel
theorem dX5_release_8 : decode cX5_release 8 = .ok (.iload_n 2, 1) := by decide +kernel
theorem dX5_release_9 : decode cX5_release 9 = .ok (.invokestatic 51, 3) := by decide +kernel
theorem dX5_release_12 : decode cX5_release 12 = .ok (.ifCond .eq 7, 3) := by decide +kernel
theorem dX5_release_15 : decode cX5_release 15 = .ok (.iconst 1, 1) := by decide +kernel
theorem dX5_release_16 : decode cX5_release 16 = .ok (.goto 4, 3) := by decide +kernel
theorem dX5_release_19 : decode cX5_release 19 = .ok (.iconst 0, 1) := by decide +kernel
theorem dX5_release_20 : decode cX5_release 20 = .ok (.iconst 1, 1) := by decide +kernel
theorem dX5_release_21 : decode cX5_release 21 = .ok (.invokevirtual 55, 3) := by decide +kernel
theorem dX5_release_24 : decode cX5_release 24 = .ok (.ifCond .ne 5, 3) := by decide +kernel
theorem dX5_release_27 : decode cX5_release 27 = .ok (.iconst 0, 1) := by decide +kernel
theorem dX5_release_28 : decode cX5_release 28 = .ok (.ireturn, 1) := by decide +kernel
theorem dX5_release_29 : decode cX5_release 29 = .ok (.aload_n 0, 1) := by decide +kernel
theorem dX5_release_30 : decode cX5_release 30 = .ok (.getfield 7, 3) := by decide +kernel
theorem dX5_release_33 : decode cX5_release 33 = .ok (.iload_n 1, 1) := by decide +kernel
theorem dX5_release_34 : decode cX5_release 34 = .ok (.iaload, 1) := by decide +kernel
theorem dX5_release_35 : decode cX5_release 35 = .ok (.iload_n 2, 1) := by decide +kernel
theorem dX5_release_36 : decode cX5_release 36 = .ok (.invokestatic 47, 3) := by decide +kernel
theorem dX5_release_39 : decode cX5_release 39 = .ok (.istore_n 3, 1) := by decide +kernel
theorem dX5_release_40 : decode cX5_release 40 = .ok (.aload_n 0, 1) := by decide +kernel
theorem dX5_release_41 : decode cX5_release 41 = .ok (.getfield 7, 3) := by decide +kernel
theorem dX5_release_44 : decode cX5_release 44 = .ok (.iload_n 1, 1) := by decide +kernel
theorem dX5_release_45 : decode cX5_release 45 = .ok (.dup2, 1) := by decide +kernel
theorem dX5_release_46 : decode cX5_release 46 = .ok (.iaload, 1) := by decide +kernel
theorem dX5_release_47 : decode cX5_release 47 = .ok (.iconst 1, 1) := by decide +kernel
theorem dX5_release_48 : decode cX5_release 48 = .ok (.iload_n 2, 1) := by decide +kernel
theorem dX5_release_49 : decode cX5_release 49 = .ok (.ishl, 1) := by decide +kernel
theorem dX5_release_50 : decode cX5_release 50 = .ok (.iconst (-1), 1) := by decide +kernel
theorem dX5_release_51 : decode cX5_release 51 = .ok (.ixor, 1) := by decide +kernel
theorem dX5_release_52 : decode cX5_release 52 = .ok (.iand, 1) := by decide +kernel
theorem dX5_release_53 : decode cX5_release 53 = .ok (.iastore, 1) := by decide +kernel
theorem dX5_release_54 : decode cX5_release 54 = .ok (.aload_n 0, 1) := by decide +kernel
theorem dX5_release_55 : decode cX5_release 55 = .ok (.invokevirtual 59, 3) := by decide +kernel
theorem dX5_release_58 : decode cX5_release 58 = .ok (.iload_n 3, 1) := by decide +kernel
theorem dX5_release_59 : decode cX5_release 59 = .ok (.ireturn, 1) := by decide +kernel
theorem dX5_needs_0 : decode cX5_needs 0 = .ok (.aload_n 0, 1) := by decide +kernel
theorem dX5_needs_1 : decode cX5_needs 1 = .ok (.iload_n 1, 1) := by decide +kernel
theorem dX5_needs_2 : decode cX5_needs 2 = .ok (.invokestatic 51, 3) := by decide +kernel
theorem dX5_needs_5 : decode cX5_needs 5 = .ok (.ifCond .eq 14, 3) := by decide +kernel
theorem dX5_needs_8 : decode cX5_needs 8 = .ok (.iload_n 2, 1) := by decide +kernel
theorem dX5_needs_9 : decode cX5_needs 9 = .ok (.invokestatic 51, 3) := by decide +kernel
theorem dX5_needs_12 : decode cX5_needs 12 = .ok (.ifCond .eq 7, 3) := by decide +kernel
theorem dX5_needs_15 : decode cX5_needs 15 = .ok (.iconst 1, 1) := by decide +kernel
theorem dX5_needs_16 : decode cX5_needs 16 = .ok (.goto 4, 3) := by decide +kernel
theorem dX5_needs_19 : decode cX5_needs 19 = .ok (.iconst 0, 1) := by decide +kernel
theorem dX5_needs_20 : decode cX5_needs 20 = .ok (.iconst 1, 1) := by decide +kernel
theorem dX5_needs_21 : decode cX5_needs 21 = .ok (.invokevirtual 55, 3) := by decide +kernel
theorem dX5_needs_24 : decode cX5_needs 24 = .ok (.ifCond .eq 20, 3) := by decide +kernel
theorem dX5_needs_27 : decode cX5_needs 27 = .ok (.aload_n 0, 1) := by decide +kernel
theorem dX5_needs_28 : decode cX5_needs 28 = .ok (.getfield 7, 3) := by decide +kernel
theorem dX5_needs_31 : decode cX5_needs 31 = .ok (.iload_n 1, 1) := by decide +kernel
theorem dX5_needs_32 : decode cX5_needs 32 = .ok (.iaload, 1) := by decide +kernel
theorem dX5_needs_33 : decode cX5_needs 33 = .ok (.iload_n 2, 1) := by decide +kernel
theorem dX5_needs_34 : decode cX5_needs 34 = .ok (.invokestatic 47, 3) := by decide +kernel
theorem dX5_needs_37 : decode cX5_needs 37 = .ok (.ifCond .eq 7, 3) := by decide +kernel
theorem dX5_needs_40 : decode cX5_needs 40 = .ok (.iconst 1, 1) := by decide +kernel
theorem dX5_needs_41 : decode cX5_needs 41 = .ok (.goto 4, 3) := by decide +kernel
theorem dX5_needs_44 : decode cX5_needs 44 = .ok (.iconst 0, 1) := by decide +kernel
theorem dX5_needs_45 : decode cX5_needs 45 = .ok (.ireturn, 1) := by decide +kernel
theorem dX5_dependsOn_0 : decode cX5_dependsOn 0 = .ok (.aload_n 0, 1) := by decide +kernel
theorem dX5_dependsOn_1 : decode cX5_dependsOn 1 = .ok (.iload_n 1, 1) := by decide +kernel
theorem dX5_dependsOn_2 : decode cX5_dependsOn 2 = .ok (.invokestatic 51, 3) := by decide +kernel
theorem dX5_dependsOn_5 : decode cX5_dependsOn 5 = .ok (.ifCond .eq 14, 3) := by decide +kernel
theorem dX5_dependsOn_8 : decode cX5_dependsOn 8 = .ok (.iload_n 2, 1) := by decide +kernel
theorem dX5_dependsOn_9 : decode cX5_dependsOn 9 = .ok (.invokestatic 51, 3) := by decide +kernel
theorem dX5_dependsOn_12 : decode cX5_dependsOn 12 = .ok (.ifCond .eq 7, 3) := by decide +kernel
theorem dX5_dependsOn_15 : decode cX5_dependsOn 15 = .ok (.iconst 1, 1) := by decide +kernel
theorem dX5_dependsOn_16 : decode cX5_dependsOn 16 = .ok (.goto 4, 3) := by decide +kernel
theorem dX5_dependsOn_19 : decode cX5_dependsOn 19 = .ok (.iconst 0, 1) := by decide +kernel
theorem dX5_dependsOn_20 : decode cX5_dependsOn 20 = .ok (.iconst 1, 1) := by decide +kernel
theorem dX5_dependsOn_21 : decode cX5_dependsOn 21 = .ok (.invokevirtual 55, 3) := by decide +kernel
theorem dX5_dependsOn_24 : decode cX5_dependsOn 24 = .ok (.ifCond .eq 20, 3) := by decide +kernel
theorem dX5_dependsOn_27 : decode cX5_dependsOn 27 = .ok (.aload_n 0, 1) := by decide +kernel
theorem dX5_dependsOn_28 : decode cX5_dependsOn 28 = .ok (.getfield 13, 3) := by decide +kernel
theorem dX5_dependsOn_31 : decode cX5_dependsOn 31 = .ok (.iload_n 1, 1) := by decide +kernel
theorem dX5_dependsOn_32 : decode cX5_dependsOn 32 = .ok (.iaload, 1) := by decide +kernel
theorem dX5_dependsOn_33 : decode cX5_dependsOn 33 = .ok (.iload_n 2, 1) := by decide +kernel
theorem dX5_dependsOn_34 : decode cX5_dependsOn 34 = .ok (.invokestatic 47, 3) := by decide +kernel
theorem dX5_dependsOn_37 : decode cX5_dependsOn 37 = .ok (.ifCond .eq 7, 3) := by decide +kernel
theorem dX5_dependsOn_40 : decode cX5_dependsOn 40 = .ok (.iconst 1, 1) := by decide +kernel
theorem dX5_dependsOn_41 : decode cX5_dependsOn 41 = .ok (.goto 4, 3) := by decide +kernel
theorem dX5_dependsOn_44 : decode cX5_dependsOn 44 = .ok (.iconst 0, 1) := by decide +kernel
theorem dX5_dependsOn_45 : decode cX5_dependsOn 45 = .ok (.ireturn, 1) := by decide +kernel
theorem dX5_height_0 : decode cX5_height 0 = .ok (.aload_n 0, 1) := by decide +kernel
theorem dX5_height_1 : decode cX5_height 1 = .ok (.iload_n 1, 1) := by decide +kernel
theorem dX5_height_2 : decode cX5_height 2 = .ok (.invokestatic 51, 3) := by decide +kernel
theorem dX5_height_5 : decode cX5_height 5 = .ok (.iconst 1, 1) := by decide +kernel
theorem dX5_height_6 : decode cX5_height 6 = .ok (.invokevirtual 55, 3) := by decide +kernel
theorem dX5_height_9 : decode cX5_height 9 = .ok (.ifCond .ne 5, 3) := by decide +kernel
theorem dX5_height_12 : decode cX5_height 12 = .ok (.iconst 0, 1) := by decide +kernel
theorem dX5_height_13 : decode cX5_height 13 = .ok (.ireturn, 1) := by decide +kernel
theorem dX5_height_14 : decode cX5_height 14 = .ok (.iconst 1, 1) := by decide +kernel
theorem dX5_height_15 : decode cX5_height 15 = .ok (.iload_n 1, 1) := by decide +kernel
theorem dX5_height_16 : decode cX5_height 16 = .ok (.ishl, 1) := by decide +kernel
theorem dX5_height_17 : decode cX5_height 17 = .ok (.istore_n 2, 1) := by decide +kernel
theorem dX5_height_18 : decode cX5_height 18 = .ok (.iconst (-1), 1) := by decide +kernel
theorem dX5_height_19 : decode cX5_height 19 = .ok (.istore_n 3, 1) := by decide +kernel
theorem dX5_height_20 : decode cX5_height 20 = .ok (.iload_n 2, 1) := by decide +kernel
theorem dX5_height_21 : decode cX5_height 21 = .ok (.ifCond .eq 56, 3) := by decide +kernel
theorem dX5_height_24 : decode cX5_height 24 = .ok (.iconst 0, 1) := by decide +kernel
theorem dX5_height_25 : decode cX5_height 25 = .ok (.istore 4, 2) := by decide +kernel
theorem dX5_height_27 : decode cX5_height 27 = .ok (.iconst 0, 1) := by decide +kernel
theorem dX5_height_28 : decode cX5_height 28 = .ok (.istore 5, 2) := by decide +kernel
theorem dX5_height_30 : decode cX5_height 30 = .ok (.iload 5, 2) := by decide +kernel
theorem dX5_height_32 : decode cX5_height 32 = .ok (.bipush 14, 2) := by decide +kernel
theorem dX5_height_34 : decode cX5_height 34 = .ok (.if_icmp .ge 34, 3) := by decide +kernel
theorem dX5_height_37 : decode cX5_height 37 = .ok (.iload 4, 2) := by decide +kernel
theorem dX5_height_39 : decode cX5_height 39 = .ok (.iload_n 2, 1) := by decide +kernel
theorem dX5_height_40 : decode cX5_height 40 = .ok (.iload 5, 2) := by decide +kernel
theorem dX5_height_42 : decode cX5_height 42 = .ok (.invokestatic 47, 3) := by decide +kernel
theorem dX5_height_45 : decode cX5_height 45 = .ok (.ifCond .eq 13, 3) := by decide +kernel
theorem dX5_height_48 : decode cX5_height 48 = .ok (.aload_n 0, 1) := by decide +kernel
theorem dX5_height_49 : decode cX5_height 49 = .ok (.getfield 7, 3) := by decide +kernel
theorem dX5_height_52 : decode cX5_height 52 = .ok (.iload 5, 2) := by decide +kernel
theorem dX5_height_54 : decode cX5_height 54 = .ok (.iaload, 1) := by decide +kernel
theorem dX5_height_55 : decode cX5_height 55 = .ok (.goto 4, 3) := by decide +kernel
theorem dX5_height_58 : decode cX5_height 58 = .ok (.iconst 0, 1) := by decide +kernel
theorem dX5_height_59 : decode cX5_height 59 = .ok (.ior, 1) := by decide +kernel
theorem dX5_height_60 : decode cX5_height 60 = .ok (.istore 4, 2) := by decide +kernel
theorem dX5_height_62 : decode cX5_height 62 = .ok (.iinc 5 1, 3) := by decide +kernel
theorem dX5_height_65 : decode cX5_height 65 = .ok (.goto (-35), 3) := by decide +kernel
theorem dX5_height_68 : decode cX5_height 68 = .ok (.iload 4, 2) := by decide +kernel
theorem dX5_height_70 : decode cX5_height 70 = .ok (.istore_n 2, 1) := by decide +kernel
theorem dX5_height_71 : decode cX5_height 71 = .ok (.iinc 3 1, 3) := by decide +kernel
theorem dX5_height_74 : decode cX5_height 74 = .ok (.goto (-54), 3) := by decide +kernel
theorem dX5_height_77 : decode cX5_height 77 = .ok (.iload_n 3, 1) := by decide +kernel
theorem dX5_height_78 : decode cX5_height 78 = .ok (.ireturn, 1) := by decide +kernel
theorem dX5_tick_0 : decode cX5_tick 0 = .ok (.aload_n 0, 1) := by decide +kernel
theorem dX5_tick_1 : decode cX5_tick 1 = .ok (.iload_n 1, 1) := by decide +kernel
theorem dX5_tick_2 : decode cX5_tick 2 = .ok (.iconst 1, 1) := by decide +kernel
theorem dX5_tick_3 : decode cX5_tick 3 = .ok (.if_icmp .lt 13, 3) := by decide +kernel
theorem dX5_tick_6 : decode cX5_tick 6 = .ok (.iload_n 1, 1) := by decide +kernel
theorem dX5_tick_7 : decode cX5_tick 7 = .ok (.bipush 100, 2) := by decide +kernel
theorem dX5_tick_9 : decode cX5_tick 9 = .ok (.if_icmp .gt 7, 3) := by decide +kernel
theorem dX5_tick_12 : decode cX5_tick 12 = .ok (.iconst 1, 1) := by decide +kernel
theorem dX5_tick_13 : decode cX5_tick 13 = .ok (.goto 4, 3) := by decide +kernel
theorem dX5_tick_16 : decode cX5_tick 16 = .ok (.iconst 0, 1) := by decide +kernel
theorem dX5_tick_17 : decode cX5_tick 17 = .ok (.iconst 1, 1) := by decide +kernel
theorem dX5_tick_18 : decode cX5_tick 18 = .ok (.invokevirtual 55, 3) := by decide +kernel
theorem dX5_tick_21 : decode cX5_tick 21 = .ok (.ifCond .ne 5, 3) := by decide +kernel
theorem dX5_tick_24 : decode cX5_tick 24 = .ok (.iconst 0, 1) := by decide +kernel
theorem dX5_tick_25 : decode cX5_tick 25 = .ok (.ireturn, 1) := by decide +kernel
theorem dX5_tick_26 : decode cX5_tick 26 = .ok (.aload_n 0, 1) := by decide +kernel
theorem dX5_tick_27 : decode cX5_tick 27 = .ok (.dup, 1) := by decide +kernel
theorem dX5_tick_28 : decode cX5_tick 28 = .ok (.getfield 62, 3) := by decide +kernel
theorem dX5_tick_31 : decode cX5_tick 31 = .ok (.iload_n 1, 1) := by decide +kernel
theorem dX5_tick_32 : decode cX5_tick 32 = .ok (.iadd, 1) := by decide +kernel
theorem dX5_tick_33 : decode cX5_tick 33 = .ok (.putfield 62, 3) := by decide +kernel
theorem dX5_tick_36 : decode cX5_tick 36 = .ok (.aload_n 0, 1) := by decide +kernel
theorem dX5_tick_37 : decode cX5_tick 37 = .ok (.getfield 62, 3) := by decide +kernel
theorem dX5_tick_40 : decode cX5_tick 40 = .ok (.ireturn, 1) := by decide +kernel
theorem dX5_now_0 : decode cX5_now 0 = .ok (.aload_n 0, 1) := by decide +kernel
theorem dX5_now_1 : decode cX5_now 1 = .ok (.iconst 0, 1) := by decide +kernel
theorem dX5_now_2 : decode cX5_now 2 = .ok (.putfield 43, 3) := by decide +kernel
theorem dX5_now_5 : decode cX5_now 5 = .ok (.aload_n 0, 1) := by decide +kernel
theorem dX5_now_6 : decode cX5_now 6 = .ok (.getfield 62, 3) := by decide +kernel
theorem dX5_now_9 : decode cX5_now 9 = .ok (.ireturn, 1) := by decide +kernel
theorem dX5_notes_0 : decode cX5_notes 0 = .ok (.aload_n 0, 1) := by decide +kernel
theorem dX5_notes_1 : decode cX5_notes 1 = .ok (.getfield 31, 3) := by decide +kernel
theorem dX5_notes_4 : decode cX5_notes 4 = .ok (.aload_n 0, 1) := by decide +kernel
theorem dX5_notes_5 : decode cX5_notes 5 = .ok (.getfield 65, 3) := by decide +kernel
theorem dX5_notes_8 : decode cX5_notes 8 = .ok (.iload_n 1, 1) := by decide +kernel
theorem dX5_notes_9 : decode cX5_notes 9 = .ok (.iastore, 1) := by decide +kernel
theorem dX5_notes_10 : decode cX5_notes 10 = .ok (.aload_n 0, 1) := by decide +kernel
theorem dX5_notes_11 : decode cX5_notes 11 = .ok (.getfield 34, 3) := by decide +kernel
theorem dX5_notes_14 : decode cX5_notes 14 = .ok (.aload_n 0, 1) := by decide +kernel
theorem dX5_notes_15 : decode cX5_notes 15 = .ok (.getfield 65, 3) := by decide +kernel
theorem dX5_notes_18 : decode cX5_notes 18 = .ok (.iload_n 2, 1) := by decide +kernel
theorem dX5_notes_19 : decode cX5_notes 19 = .ok (.iastore, 1) := by decide +kernel
theorem dX5_notes_20 : decode cX5_notes 20 = .ok (.aload_n 0, 1) := by decide +kernel
theorem dX5_notes_21 : decode cX5_notes 21 = .ok (.getfield 37, 3) := by decide +kernel
theorem dX5_notes_24 : decode cX5_notes 24 = .ok (.aload_n 0, 1) := by decide +kernel
theorem dX5_notes_25 : decode cX5_notes 25 = .ok (.getfield 65, 3) := by decide +kernel
theorem dX5_notes_28 : decode cX5_notes 28 = .ok (.aload_n 0, 1) := by decide +kernel
theorem dX5_notes_29 : decode cX5_notes 29 = .ok (.getfield 62, 3) := by decide +kernel
theorem dX5_notes_32 : decode cX5_notes 32 = .ok (.iastore, 1) := by decide +kernel
theorem dX5_notes_33 : decode cX5_notes 33 = .ok (.aload_n 0, 1) := by decide +kernel
theorem dX5_notes_34 : decode cX5_notes 34 = .ok (.getfield 40, 3) := by decide +kernel
theorem dX5_notes_37 : decode cX5_notes 37 = .ok (.aload_n 0, 1) := by decide +kernel
theorem dX5_notes_38 : decode cX5_notes 38 = .ok (.getfield 65, 3) := by decide +kernel
theorem dX5_notes_41 : decode cX5_notes 41 = .ok (.iload_n 3, 1) := by decide +kernel
theorem dX5_notes_42 : decode cX5_notes 42 = .ok (.iastore, 1) := by decide +kernel
theorem dX5_notes_43 : decode cX5_notes 43 = .ok (.aload_n 0, 1) := by decide +kernel
theorem dX5_notes_44 : decode cX5_notes 44 = .ok (.dup, 1) := by decide +kernel
theorem dX5_notes_45 : decode cX5_notes 45 = .ok (.getfield 65, 3) := by decide +kernel
theorem dX5_notes_48 : decode cX5_notes 48 = .ok (.iconst 1, 1) := by decide +kernel
theorem dX5_notes_49 : decode cX5_notes 49 = .ok (.iadd, 1) := by decide +kernel
theorem dX5_notes_50 : decode cX5_notes 50 = .ok (.putfield 65, 3) := by decide +kernel
theorem dX5_notes_53 : decode cX5_notes 53 = .ok (.return_, 1) := by decide +kernel
theorem dX5_kin_0 : decode cX5_kin 0 = .ok (.aload_n 0, 1) := by decide +kernel
theorem dX5_kin_1 : decode cX5_kin 1 = .ok (.getfield 13, 3) := by decide +kernel
theorem dX5_kin_4 : decode cX5_kin 4 = .ok (.iload_n 1, 1) := by decide +kernel
theorem dX5_kin_5 : decode cX5_kin 5 = .ok (.iaload, 1) := by decide +kernel
theorem dX5_kin_6 : decode cX5_kin 6 = .ok (.istore_n 2, 1) := by decide +kernel
theorem dX5_kin_7 : decode cX5_kin 7 = .ok (.iconst 0, 1) := by decide +kernel
theorem dX5_kin_8 : decode cX5_kin 8 = .ok (.istore_n 3, 1) := by decide +kernel
theorem dX5_kin_9 : decode cX5_kin 9 = .ok (.iload_n 3, 1) := by decide +kernel
theorem dX5_kin_10 : decode cX5_kin 10 = .ok (.bipush 14, 2) := by decide +kernel
theorem dX5_kin_12 : decode cX5_kin 12 = .ok (.if_icmp .ge 32, 3) := by decide +kernel
theorem dX5_kin_15 : decode cX5_kin 15 = .ok (.iload_n 2, 1) := by decide +kernel
theorem dX5_kin_16 : decode cX5_kin 16 = .ok (.aload_n 0, 1) := by decide +kernel
theorem dX5_kin_17 : decode cX5_kin 17 = .ok (.getfield 13, 3) := by decide +kernel
theorem dX5_kin_20 : decode cX5_kin 20 = .ok (.iload_n 3, 1) := by decide +kernel
theorem dX5_kin_21 : decode cX5_kin 21 = .ok (.iaload, 1) := by decide +kernel
theorem dX5_kin_22 : decode cX5_kin 22 = .ok (.iload_n 1, 1) := by decide +kernel
theorem dX5_kin_23 : decode cX5_kin 23 = .ok (.invokestatic 47, 3) := by decide +kernel
theorem dX5_kin_26 : decode cX5_kin 26 = .ok (.ifCond .eq 9, 3) := by decide +kernel
theorem dX5_kin_29 : decode cX5_kin 29 = .ok (.iconst 1, 1) := by decide +kernel
theorem dX5_kin_30 : decode cX5_kin 30 = .ok (.iload_n 3, 1) := by decide +kernel
theorem dX5_kin_31 : decode cX5_kin 31 = .ok (.ishl, 1) := by decide +kernel
theorem dX5_kin_32 : decode cX5_kin 32 = .ok (.goto 4, 3) := by decide +kernel
theorem dX5_kin_35 : decode cX5_kin 35 = .ok (.iconst 0, 1) := by decide +kernel
theorem dX5_kin_36 : decode cX5_kin 36 = .ok (.ior, 1) := by decide +kernel
theorem dX5_kin_37 : decode cX5_kin 37 = .ok (.istore_n 2, 1) := by decide +kernel
theorem dX5_kin_38 : decode cX5_kin 38 = .ok (.iinc 3 1, 3) := by decide +kernel
theorem dX5_kin_41 : decode cX5_kin 41 = .ok (.goto (-32), 3) := by decide +kernel
theorem dX5_kin_44 : decode cX5_kin 44 = .ok (.iload_n 2, 1) := by decide +kernel
theorem dX5_kin_45 : decode cX5_kin 45 = .ok (.ireturn, 1) := by decide +kernel
theorem dX5_raise_0 : decode cX5_raise 0 = .ok (.iload_n 1, 1) := by decide +kernel
theorem dX5_raise_1 : decode cX5_raise 1 = .ok (.invokestatic 51, 3) := by decide +kernel
theorem dX5_raise_4 : decode cX5_raise 4 = .ok (.istore_n 2, 1) := by decide +kernel
theorem dX5_raise_5 : decode cX5_raise 5 = .ok (.aload_n 0, 1) := by decide +kernel
theorem dX5_raise_6 : decode cX5_raise 6 = .ok (.iload_n 2, 1) := by decide +kernel
theorem dX5_raise_7 : decode cX5_raise 7 = .ok (.iload_n 2, 1) := by decide +kernel
theorem dX5_raise_8 : decode cX5_raise 8 = .ok (.ifCond .eq 28, 3) := by decide +kernel
theorem dX5_raise_11 : decode cX5_raise 11 = .ok (.aload_n 0, 1) := by decide +kernel
theorem dX5_raise_12 : decode cX5_raise 12 = .ok (.getfield 68, 3) := by decide +kernel
theorem dX5_raise_15 : decode cX5_raise 15 = .ok (.iload_n 1, 1) := by decide +kernel
theorem dX5_raise_16 : decode cX5_raise 16 = .ok (.invokestatic 47, 3) := by decide +kernel
theorem dX5_raise_19 : decode cX5_raise 19 = .ok (.ifCond .ne 17, 3) := by decide +kernel
theorem dX5_raise_22 : decode cX5_raise 22 = .ok (.aload_n 0, 1) := by decide +kernel
theorem dX5_raise_23 : decode cX5_raise 23 = .ok (.getfield 65, 3) := by decide +kernel
theorem dX5_raise_26 : decode cX5_raise 26 = .ok (.sipush 300, 3) := by decide +kernel
theorem dX5_raise_29 : decode cX5_raise 29 = .ok (.if_icmp .ge 7, 3) := by decide +kernel
theorem dX5_raise_32 : decode cX5_raise 32 = .ok (.iconst 1, 1) := by decide +kernel
theorem dX5_raise_33 : decode cX5_raise 33 = .ok (.goto 4, 3) := by decide +kernel
theorem dX5_raise_36 : decode cX5_raise 36 = .ok (.iconst 0, 1) := by decide +kernel
theorem dX5_raise_37 : decode cX5_raise 37 = .ok (.invokevirtual 55, 3) := by decide +kernel
theorem dX5_raise_40 : decode cX5_raise 40 = .ok (.ifCond .ne 5, 3) := by decide +kernel
theorem dX5_raise_43 : decode cX5_raise 43 = .ok (.iconst 0, 1) := by decide +kernel
theorem dX5_raise_44 : decode cX5_raise 44 = .ok (.ireturn, 1) := by decide +kernel
theorem dX5_raise_45 : decode cX5_raise 45 = .ok (.aload_n 0, 1) := by decide +kernel
theorem dX5_raise_46 : decode cX5_raise 46 = .ok (.iload_n 1, 1) := by decide +kernel
theorem dX5_raise_47 : decode cX5_raise 47 = .ok (.invokevirtual 71, 3) := by decide +kernel
theorem dX5_raise_50 : decode cX5_raise 50 = .ok (.aload_n 0, 1) := by decide +kernel
theorem dX5_raise_51 : decode cX5_raise 51 = .ok (.getfield 68, 3) := by decide +kernel
theorem dX5_raise_54 : decode cX5_raise 54 = .ok (.iand, 1) := by decide +kernel
theorem dX5_raise_55 : decode cX5_raise 55 = .ok (.istore_n 3, 1) := by decide +kernel
theorem dX5_raise_56 : decode cX5_raise 56 = .ok (.iconst (-1), 1) := by decide +kernel
theorem dX5_raise_57 : decode cX5_raise 57 = .ok (.istore 4, 2) := by decide +kernel
theorem dX5_raise_59 : decode cX5_raise 59 = .ok (.iconst 0, 1) := by decide +kernel
theorem dX5_raise_60 : decode cX5_raise 60 = .ok (.istore 5, 2) := by decide +kernel
theorem dX5_raise_62 : decode cX5_raise 62 = .ok (.iload 5, 2) := by decide +kernel
theorem dX5_raise_64 : decode cX5_raise 64 = .ok (.bipush 14, 2) := by decide +kernel
theorem dX5_raise_66 : decode cX5_raise 66 = .ok (.if_icmp .ge 49, 3) := by decide +kernel
theorem dX5_raise_69 : decode cX5_raise 69 = .ok (.iload_n 3, 1) := by decide +kernel
theorem dX5_raise_70 : decode cX5_raise 70 = .ok (.iload 5, 2) := by decide +kernel
theorem dX5_raise_72 : decode cX5_raise 72 = .ok (.invokestatic 47, 3) := by decide +kernel
theorem dX5_raise_75 : decode cX5_raise 75 = .ok (.ifCond .eq 30, 3) := by decide +kernel
theorem dX5_raise_78 : decode cX5_raise 78 = .ok (.iload 4, 2) := by decide +kernel
theorem dX5_raise_80 : decode cX5_raise 80 = .ok (.ifCond .lt 15, 3) := by decide +kernel
theorem dX5_raise_83 : decode cX5_raise 83 = .ok (.aload_n 0, 1) := by decide +kernel
theorem dX5_raise_84 : decode cX5_raise 84 = .ok (.getfield 19, 3) := by decide +kernel
theorem dX5_raise_87 : decode cX5_raise 87 = .ok (.iload 5, 2) := by decide +kernel
theorem dX5_raise_89 : decode cX5_raise 89 = .ok (.iaload, 1) := by decide +kernel
theorem dX5_raise_90 : decode cX5_raise 90 = .ok (.iload 4, 2) := by decide +kernel
theorem dX5_raise_92 : decode cX5_raise 92 = .ok (.if_icmp .ge 13, 3) := by decide +kernel
theorem dX5_raise_95 : decode cX5_raise 95 = .ok (.aload_n 0, 1) := by decide +kernel
theorem dX5_raise_96 : decode cX5_raise 96 = .ok (.getfield 19, 3) := by decide +kernel
theorem dX5_raise_99 : decode cX5_raise 99 = .ok (.iload 5, 2) := by decide +kernel
theorem dX5_raise_101 : decode cX5_raise 101 = .ok (.iaload, 1) := by decide +kernel
theorem dX5_raise_102 : decode cX5_raise 102 = .ok (.goto 5, 3) := by decide +kernel
theorem dX5_raise_105 : decode cX5_raise 105 = .ok (.iload 4, 2) := by decide +kernel
theorem dX5_raise_107 : decode cX5_raise 107 = .ok (.istore 4, 2) := by decide +kernel
theorem dX5_raise_109 : decode cX5_raise 109 = .ok (.iinc 5 1, 3) := by decide +kernel
theorem dX5_raise_112 : decode cX5_raise 112 = .ok (.goto (-50), 3) := by decide +kernel
theorem dX5_raise_115 : decode cX5_raise 115 = .ok (.iload 4, 2) := by decide +kernel
theorem dX5_raise_117 : decode cX5_raise 117 = .ok (.ifCond .ge 35, 3) := by decide +kernel
theorem dX5_raise_120 : decode cX5_raise 120 = .ok (.aload_n 0, 1) := by decide +kernel
theorem dX5_raise_121 : decode cX5_raise 121 = .ok (.dup, 1) := by decide +kernel
theorem dX5_raise_122 : decode cX5_raise 122 = .ok (.getfield 75, 3) := by decide +kernel
theorem dX5_raise_125 : decode cX5_raise 125 = .ok (.iconst 1, 1) := by decide +kernel
theorem dX5_raise_126 : decode cX5_raise 126 = .ok (.iadd, 1) := by decide +kernel
theorem dX5_raise_127 : decode cX5_raise 127 = .ok (.putfield 75, 3) := by decide +kernel
theorem dX5_raise_130 : decode cX5_raise 130 = .ok (.aload_n 0, 1) := by decide +kernel
theorem dX5_raise_131 : decode cX5_raise 131 = .ok (.getfield 75, 3) := by decide +kernel
theorem dX5_raise_134 : decode cX5_raise 134 = .ok (.istore 4, 2) := by decide +kernel
theorem dX5_raise_136 : decode cX5_raise 136 = .ok (.aload_n 0, 1) := by decide +kernel
theorem dX5_raise_137 : decode cX5_raise 137 = .ok (.getfield 25, 3) := by decide +kernel
theorem dX5_raise_140 : decode cX5_raise 140 = .ok (.iload 4, 2) := by decide +kernel
theorem dX5_raise_142 : decode cX5_raise 142 = .ok (.iconst 1, 1) := by decide +kernel
theorem dX5_raise_143 : decode cX5_raise 143 = .ok (.iastore, 1) := by decide +kernel
theorem dX5_raise_144 : decode cX5_raise 144 = .ok (.aload_n 0, 1) := by decide +kernel
theorem dX5_raise_145 : decode cX5_raise 145 = .ok (.getfield 22, 3) := by decide +kernel
theorem dX5_raise_148 : decode cX5_raise 148 = .ok (.iload 4, 2) := by decide +kernel
theorem dX5_raise_150 : decode cX5_raise 150 = .ok (.iconst 0, 1) := by decide +kernel
theorem dX5_raise_151 : decode cX5_raise 151 = .ok (.iastore, 1) := by decide +kernel
theorem dX5_raise_152 : decode cX5_raise 152 = .ok (.iload 4, 2) := by decide +kernel
theorem dX5_raise_154 : decode cX5_raise 154 = .ok (.iconst 1, 1) := by decide +kernel
theorem dX5_raise_155 : decode cX5_raise 155 = .ok (.iadd, 1) := by decide +kernel
theorem dX5_raise_156 : decode cX5_raise 156 = .ok (.istore 5, 2) := by decide +kernel
theorem dX5_raise_158 : decode cX5_raise 158 = .ok (.iload 5, 2) := by decide +kernel
theorem dX5_raise_160 : decode cX5_raise 160 = .ok (.aload_n 0, 1) := by decide +kernel
theorem dX5_raise_161 : decode cX5_raise 161 = .ok (.getfield 75, 3) := by decide +kernel
theorem dX5_raise_164 : decode cX5_raise 164 = .ok (.if_icmp .gt 74, 3) := by decide +kernel
theorem dX5_raise_167 : decode cX5_raise 167 = .ok (.aload_n 0, 1) := by decide +kernel
theorem dX5_raise_168 : decode cX5_raise 168 = .ok (.getfield 25, 3) := by decide +kernel
theorem dX5_raise_171 : decode cX5_raise 171 = .ok (.iload 5, 2) := by decide +kernel
theorem dX5_raise_173 : decode cX5_raise 173 = .ok (.iaload, 1) := by decide +kernel
theorem dX5_raise_174 : decode cX5_raise 174 = .ok (.iconst 1, 1) := by decide +kernel
theorem dX5_raise_175 : decode cX5_raise 175 = .ok (.if_icmp .ne 57, 3) := by decide +kernel
theorem dX5_raise_178 : decode cX5_raise 178 = .ok (.aload_n 0, 1) := by decide +kernel
theorem dX5_raise_179 : decode cX5_raise 179 = .ok (.getfield 22, 3) := by decide +kernel
theorem dX5_raise_182 : decode cX5_raise 182 = .ok (.iload 5, 2) := by decide +kernel
theorem dX5_raise_184 : decode cX5_raise 184 = .ok (.iaload, 1) := by decide +kernel
theorem dX5_raise_185 : decode cX5_raise 185 = .ok (.iload_n 3, 1) := by decide +kernel
theorem dX5_raise_186 : decode cX5_raise 186 = .ok (.iand, 1) := by decide +kernel
theorem dX5_raise_187 : decode cX5_raise 187 = .ok (.ifCond .eq 45, 3) := by decide +kernel
theorem dX5_raise_190 : decode cX5_raise 190 = .ok (.aload_n 0, 1) := by decide +kernel
theorem dX5_raise_191 : decode cX5_raise 191 = .ok (.getfield 22, 3) := by decide +kernel
theorem dX5_raise_194 : decode cX5_raise 194 = .ok (.iload 4, 2) := by decide +kernel
theorem dX5_raise_196 : decode cX5_raise 196 = .ok (.dup2, 1) := by decide +kernel
theorem dX5_raise_197 : decode cX5_raise 197 = .ok (.iaload, 1) := by decide +kernel
theorem dX5_raise_198 : decode cX5_raise 198 = .ok (.aload_n 0, 1) := by decide +kernel
theorem dX5_raise_199 : decode cX5_raise 199 = .ok (.getfield 22, 3) := by decide +kernel
theorem dX5_raise_202 : decode cX5_raise 202 = .ok (.iload 5, 2) := by decide +kernel
theorem dX5_raise_204 : decode cX5_raise 204 = .ok (.iaload, 1) := by decide +kernel
theorem dX5_raise_205 : decode cX5_raise 205 = .ok (.ior, 1) := by decide +kernel
theorem dX5_raise_206 : decode cX5_raise 206 = .ok (.iastore, 1) := by decide +kernel
theorem dX5_raise_207 : decode cX5_raise 207 = .ok (.aload_n 0, 1) := by decide +kernel
theorem dX5_raise_208 : decode cX5_raise 208 = .ok (.getfield 22, 3) := by decide +kernel
theorem dX5_raise_211 : decode cX5_raise 211 = .ok (.iload 5, 2) := by decide +kernel
theorem dX5_raise_213 : decode cX5_raise 213 = .ok (.iconst 0, 1) := by decide +kernel
theorem dX5_raise_214 : decode cX5_raise 214 = .ok (.iastore, 1) := by decide +kernel
theorem dX5_raise_215 : decode cX5_raise 215 = .ok (.aload_n 0, 1) := by decide +kernel
theorem dX5_raise_216 : decode cX5_raise 216 = .ok (.getfield 25, 3) := by decide +kernel
theorem dX5_raise_219 : decode cX5_raise 219 = .ok (.iload 5, 2) := by decide +kernel
theorem dX5_raise_221 : decode cX5_raise 221 = .ok (.iconst 3, 1) := by decide +kernel
theorem dX5_raise_222 : decode cX5_raise 222 = .ok (.iastore, 1) := by decide +kernel
theorem dX5_raise_223 : decode cX5_raise 223 = .ok (.aload_n 0, 1) := by decide +kernel
theorem dX5_raise_224 : decode cX5_raise 224 = .ok (.getfield 28, 3) := by decide +kernel
theorem dX5_raise_227 : decode cX5_raise 227 = .ok (.iload 5, 2) := by decide +kernel
theorem dX5_raise_229 : decode cX5_raise 229 = .ok (.iload 4, 2) := by decide +kernel
theorem dX5_raise_231 : decode cX5_raise 231 = .ok (.iastore, 1) := by decide +kernel
theorem dX5_raise_232 : decode cX5_raise 232 = .ok (.iinc 5 1, 3) := by decide +kernel
theorem dX5_raise_235 : decode cX5_raise 235 = .ok (.goto (-77), 3) := by decide +kernel
theorem dX5_raise_238 : decode cX5_raise 238 = .ok (.aload_n 0, 1) := by decide +kernel
theorem dX5_raise_239 : decode cX5_raise 239 = .ok (.getfield 22, 3) := by decide +kernel
theorem dX5_raise_242 : decode cX5_raise 242 = .ok (.iload 4, 2) := by decide +kernel
theorem dX5_raise_244 : decode cX5_raise 244 = .ok (.dup2, 1) := by decide +kernel
theorem dX5_raise_245 : decode cX5_raise 245 = .ok (.iaload, 1) := by decide +kernel
theorem dX5_raise_246 : decode cX5_raise 246 = .ok (.iconst 1, 1) := by decide +kernel
theorem dX5_raise_247 : decode cX5_raise 247 = .ok (.iload_n 1, 1) := by decide +kernel
theorem dX5_raise_248 : decode cX5_raise 248 = .ok (.ishl, 1) := by decide +kernel
theorem dX5_raise_249 : decode cX5_raise 249 = .ok (.ior, 1) := by decide +kernel
theorem dX5_raise_250 : decode cX5_raise 250 = .ok (.iastore, 1) := by decide +kernel
theorem dX5_raise_251 : decode cX5_raise 251 = .ok (.iconst 0, 1) := by decide +kernel
theorem dX5_raise_252 : decode cX5_raise 252 = .ok (.istore 5, 2) := by decide +kernel
theorem dX5_raise_254 : decode cX5_raise 254 = .ok (.iload 5, 2) := by decide +kernel
theorem dX5_raise_256 : decode cX5_raise 256 = .ok (.bipush 14, 2) := by decide +kernel
theorem dX5_raise_258 : decode cX5_raise 258 = .ok (.if_icmp .ge 43, 3) := by decide +kernel
theorem dX5_raise_261 : decode cX5_raise 261 = .ok (.aload_n 0, 1) := by decide +kernel
theorem dX5_raise_262 : decode cX5_raise 262 = .ok (.getfield 19, 3) := by decide +kernel
theorem dX5_raise_265 : decode cX5_raise 265 = .ok (.iload 5, 2) := by decide +kernel
theorem dX5_raise_267 : decode cX5_raise 267 = .ok (.aload_n 0, 1) := by decide +kernel
theorem dX5_raise_268 : decode cX5_raise 268 = .ok (.getfield 22, 3) := by decide +kernel
theorem dX5_raise_271 : decode cX5_raise 271 = .ok (.iload 4, 2) := by decide +kernel
theorem dX5_raise_273 : decode cX5_raise 273 = .ok (.iaload, 1) := by decide +kernel
theorem dX5_raise_274 : decode cX5_raise 274 = .ok (.iload 5, 2) := by decide +kernel
theorem dX5_raise_276 : decode cX5_raise 276 = .ok (.invokestatic 47, 3) := by decide +kernel
theorem dX5_raise_279 : decode cX5_raise 279 = .ok (.ifCond .eq 8, 3) := by decide +kernel
theorem dX5_raise_282 : decode cX5_raise 282 = .ok (.iload 4, 2) := by decide +kernel
theorem dX5_raise_284 : decode cX5_raise 284 = .ok (.goto 10, 3) := by decide +kernel
theorem dX5_raise_287 : decode cX5_raise 287 = .ok (.aload_n 0, 1) := by decide +kernel
theorem dX5_raise_288 : decode cX5_raise 288 = .ok (.getfield 19, 3) := by decide +kernel
theorem dX5_raise_291 : decode cX5_raise 291 = .ok (.iload 5, 2) := by decide +kernel
theorem dX5_raise_293 : decode cX5_raise 293 = .ok (.iaload, 1) := by decide +kernel
theorem dX5_raise_294 : decode cX5_raise 294 = .ok (.iastore, 1) := by decide +kernel
theorem dX5_raise_295 : decode cX5_raise 295 = .ok (.iinc 5 1, 3) := by decide +kernel
theorem dX5_raise_298 : decode cX5_raise 298 = .ok (.goto (-44), 3) := by decide +kernel
theorem dX5_raise_301 : decode cX5_raise 301 = .ok (.aload_n 0, 1) := by decide +kernel
theorem dX5_raise_302 : decode cX5_raise 302 = .ok (.dup, 1) := by decide +kernel
theorem dX5_raise_303 : decode cX5_raise 303 = .ok (.getfield 68, 3) := by decide +kernel
theorem dX5_raise_306 : decode cX5_raise 306 = .ok (.iconst 1, 1) := by decide +kernel
theorem dX5_raise_307 : decode cX5_raise 307 = .ok (.iload_n 1, 1) := by decide +kernel
end
section
theorem dX5_raise_308 : decode cX5_raise 308 = .ok (.ishl, 1) := by decide +kernel
theorem dX5_raise_309 : decode cX5_raise 309 = .ok (.ior, 1) := by decide +kernel
theorem dX5_raise_310 : decode cX5_raise 310 = .ok (.putfield 68, 3) := by decide +kernel
theorem dX5_raise_313 : decode cX5_raise 313 = .ok (.aload_n 0, 1) := by decide +kernel
theorem dX5_raise_314 : decode cX5_raise 314 = .ok (.getfield 16, 3) := by decide +kernel
theorem dX5_raise_317 : decode cX5_raise 317 = .ok (.iload_n 1, 1) := by decide +kernel
theorem dX5_raise_318 : decode cX5_raise 318 = .ok (.aload_n 0, 1) := by decide +kernel
theorem dX5_raise_319 : decode cX5_raise 319 = .ok (.getfield 62, 3) := by decide +kernel
theorem dX5_raise_322 : decode cX5_raise 322 = .ok (.iastore, 1) := by decide +kernel
theorem dX5_raise_323 : decode cX5_raise 323 = .ok (.aload_n 0, 1) := by decide +kernel
theorem dX5_raise_324 : decode cX5_raise 324 = .ok (.iconst 0, 1) := by decide +kernel
theorem dX5_raise_325 : decode cX5_raise 325 = .ok (.iload_n 1, 1) := by decide +kernel
theorem dX5_raise_326 : decode cX5_raise 326 = .ok (.iconst (-1), 1) := by decide +kernel
theorem dX5_raise_327 : decode cX5_raise 327 = .ok (.invokevirtual 78, 3) := by decide +kernel
theorem dX5_raise_330 : decode cX5_raise 330 = .ok (.iload 4, 2) := by decide +kernel
theorem dX5_raise_332 : decode cX5_raise 332 = .ok (.ireturn, 1) := by decide +kernel
theorem dX5_clear_0 : decode cX5_clear 0 = .ok (.iload_n 1, 1) := by decide +kernel
theorem dX5_clear_1 : decode cX5_clear 1 = .ok (.invokestatic 51, 3) := by decide +kernel
theorem dX5_clear_4 : decode cX5_clear 4 = .ok (.istore_n 2, 1) := by decide +kernel
theorem dX5_clear_5 : decode cX5_clear 5 = .ok (.aload_n 0, 1) := by decide +kernel
theorem dX5_clear_6 : decode cX5_clear 6 = .ok (.iload_n 2, 1) := by decide +kernel
theorem dX5_clear_7 : decode cX5_clear 7 = .ok (.iload_n 2, 1) := by decide +kernel
theorem dX5_clear_8 : decode cX5_clear 8 = .ok (.ifCond .eq 28, 3) := by decide +kernel
theorem dX5_clear_11 : decode cX5_clear 11 = .ok (.aload_n 0, 1) := by decide +kernel
theorem dX5_clear_12 : decode cX5_clear 12 = .ok (.getfield 68, 3) := by decide +kernel
theorem dX5_clear_15 : decode cX5_clear 15 = .ok (.iload_n 1, 1) := by decide +kernel
theorem dX5_clear_16 : decode cX5_clear 16 = .ok (.invokestatic 47, 3) := by decide +kernel
theorem dX5_clear_19 : decode cX5_clear 19 = .ok (.ifCond .eq 17, 3) := by decide +kernel
theorem dX5_clear_22 : decode cX5_clear 22 = .ok (.aload_n 0, 1) := by decide +kernel
theorem dX5_clear_23 : decode cX5_clear 23 = .ok (.getfield 65, 3) := by decide +kernel
theorem dX5_clear_26 : decode cX5_clear 26 = .ok (.sipush 300, 3) := by decide +kernel
theorem dX5_clear_29 : decode cX5_clear 29 = .ok (.if_icmp .ge 7, 3) := by decide +kernel
theorem dX5_clear_32 : decode cX5_clear 32 = .ok (.iconst 1, 1) := by decide +kernel
theorem dX5_clear_33 : decode cX5_clear 33 = .ok (.goto 4, 3) := by decide +kernel
theorem dX5_clear_36 : decode cX5_clear 36 = .ok (.iconst 0, 1) := by decide +kernel
theorem dX5_clear_37 : decode cX5_clear 37 = .ok (.invokevirtual 55, 3) := by decide +kernel
theorem dX5_clear_40 : decode cX5_clear 40 = .ok (.ifCond .ne 5, 3) := by decide +kernel
theorem dX5_clear_43 : decode cX5_clear 43 = .ok (.iconst 0, 1) := by decide +kernel
theorem dX5_clear_44 : decode cX5_clear 44 = .ok (.ireturn, 1) := by decide +kernel
theorem dX5_clear_45 : decode cX5_clear 45 = .ok (.aload_n 0, 1) := by decide +kernel
theorem dX5_clear_46 : decode cX5_clear 46 = .ok (.getfield 19, 3) := by decide +kernel
theorem dX5_clear_49 : decode cX5_clear 49 = .ok (.iload_n 1, 1) := by decide +kernel
theorem dX5_clear_50 : decode cX5_clear 50 = .ok (.iaload, 1) := by decide +kernel
theorem dX5_clear_51 : decode cX5_clear 51 = .ok (.istore_n 3, 1) := by decide +kernel
theorem dX5_clear_52 : decode cX5_clear 52 = .ok (.aload_n 0, 1) := by decide +kernel
theorem dX5_clear_53 : decode cX5_clear 53 = .ok (.getfield 22, 3) := by decide +kernel
theorem dX5_clear_56 : decode cX5_clear 56 = .ok (.iload_n 3, 1) := by decide +kernel
theorem dX5_clear_57 : decode cX5_clear 57 = .ok (.dup2, 1) := by decide +kernel
theorem dX5_clear_58 : decode cX5_clear 58 = .ok (.iaload, 1) := by decide +kernel
theorem dX5_clear_59 : decode cX5_clear 59 = .ok (.iconst 1, 1) := by decide +kernel
theorem dX5_clear_60 : decode cX5_clear 60 = .ok (.iload_n 1, 1) := by decide +kernel
theorem dX5_clear_61 : decode cX5_clear 61 = .ok (.ishl, 1) := by decide +kernel
theorem dX5_clear_62 : decode cX5_clear 62 = .ok (.iconst (-1), 1) := by decide +kernel
theorem dX5_clear_63 : decode cX5_clear 63 = .ok (.ixor, 1) := by decide +kernel
theorem dX5_clear_64 : decode cX5_clear 64 = .ok (.iand, 1) := by decide +kernel
theorem dX5_clear_65 : decode cX5_clear 65 = .ok (.iastore, 1) := by decide +kernel
theorem dX5_clear_66 : decode cX5_clear 66 = .ok (.aload_n 0, 1) := by decide +kernel
theorem dX5_clear_67 : decode cX5_clear 67 = .ok (.getfield 25, 3) := by decide +kernel
theorem dX5_clear_70 : decode cX5_clear 70 = .ok (.iload_n 3, 1) := by decide +kernel
theorem dX5_clear_71 : decode cX5_clear 71 = .ok (.aload_n 0, 1) := by decide +kernel
theorem dX5_clear_72 : decode cX5_clear 72 = .ok (.getfield 22, 3) := by decide +kernel
theorem dX5_clear_75 : decode cX5_clear 75 = .ok (.iload_n 3, 1) := by decide +kernel
theorem dX5_clear_76 : decode cX5_clear 76 = .ok (.iaload, 1) := by decide +kernel
theorem dX5_clear_77 : decode cX5_clear 77 = .ok (.ifCond .ne 7, 3) := by decide +kernel
theorem dX5_clear_80 : decode cX5_clear 80 = .ok (.iconst 2, 1) := by decide +kernel
theorem dX5_clear_81 : decode cX5_clear 81 = .ok (.goto 4, 3) := by decide +kernel
theorem dX5_clear_84 : decode cX5_clear 84 = .ok (.iconst 1, 1) := by decide +kernel
theorem dX5_clear_85 : decode cX5_clear 85 = .ok (.iastore, 1) := by decide +kernel
theorem dX5_clear_86 : decode cX5_clear 86 = .ok (.aload_n 0, 1) := by decide +kernel
theorem dX5_clear_87 : decode cX5_clear 87 = .ok (.dup, 1) := by decide +kernel
theorem dX5_clear_88 : decode cX5_clear 88 = .ok (.getfield 68, 3) := by decide +kernel
theorem dX5_clear_91 : decode cX5_clear 91 = .ok (.iconst 1, 1) := by decide +kernel
theorem dX5_clear_92 : decode cX5_clear 92 = .ok (.iload_n 1, 1) := by decide +kernel
theorem dX5_clear_93 : decode cX5_clear 93 = .ok (.ishl, 1) := by decide +kernel
theorem dX5_clear_94 : decode cX5_clear 94 = .ok (.iconst (-1), 1) := by decide +kernel
theorem dX5_clear_95 : decode cX5_clear 95 = .ok (.ixor, 1) := by decide +kernel
theorem dX5_clear_96 : decode cX5_clear 96 = .ok (.iand, 1) := by decide +kernel
theorem dX5_clear_97 : decode cX5_clear 97 = .ok (.putfield 68, 3) := by decide +kernel
theorem dX5_clear_100 : decode cX5_clear 100 = .ok (.aload_n 0, 1) := by decide +kernel
theorem dX5_clear_101 : decode cX5_clear 101 = .ok (.iconst 1, 1) := by decide +kernel
theorem dX5_clear_102 : decode cX5_clear 102 = .ok (.iload_n 1, 1) := by decide +kernel
theorem dX5_clear_103 : decode cX5_clear 103 = .ok (.aload_n 0, 1) := by decide +kernel
theorem dX5_clear_104 : decode cX5_clear 104 = .ok (.getfield 62, 3) := by decide +kernel
theorem dX5_clear_107 : decode cX5_clear 107 = .ok (.aload_n 0, 1) := by decide +kernel
theorem dX5_clear_108 : decode cX5_clear 108 = .ok (.getfield 16, 3) := by decide +kernel
theorem dX5_clear_111 : decode cX5_clear 111 = .ok (.iload_n 1, 1) := by decide +kernel
theorem dX5_clear_112 : decode cX5_clear 112 = .ok (.iaload, 1) := by decide +kernel
theorem dX5_clear_113 : decode cX5_clear 113 = .ok (.isub, 1) := by decide +kernel
theorem dX5_clear_114 : decode cX5_clear 114 = .ok (.invokevirtual 78, 3) := by decide +kernel
theorem dX5_clear_117 : decode cX5_clear 117 = .ok (.aload_n 0, 1) := by decide +kernel
theorem dX5_clear_118 : decode cX5_clear 118 = .ok (.getfield 22, 3) := by decide +kernel
theorem dX5_clear_121 : decode cX5_clear 121 = .ok (.iload_n 3, 1) := by decide +kernel
theorem dX5_clear_122 : decode cX5_clear 122 = .ok (.iaload, 1) := by decide +kernel
theorem dX5_clear_123 : decode cX5_clear 123 = .ok (.invokestatic 82, 3) := by decide +kernel
theorem dX5_clear_126 : decode cX5_clear 126 = .ok (.ireturn, 1) := by decide +kernel
theorem dX5_raisesOf_0 : decode cX5_raisesOf 0 = .ok (.iconst 0, 1) := by decide +kernel
theorem dX5_raisesOf_1 : decode cX5_raisesOf 1 = .ok (.istore_n 3, 1) := by decide +kernel
theorem dX5_raisesOf_2 : decode cX5_raisesOf 2 = .ok (.iconst 0, 1) := by decide +kernel
theorem dX5_raisesOf_3 : decode cX5_raisesOf 3 = .ok (.istore 4, 2) := by decide +kernel
theorem dX5_raisesOf_5 : decode cX5_raisesOf 5 = .ok (.iload 4, 2) := by decide +kernel
theorem dX5_raisesOf_7 : decode cX5_raisesOf 7 = .ok (.aload_n 0, 1) := by decide +kernel
theorem dX5_raisesOf_8 : decode cX5_raisesOf 8 = .ok (.getfield 65, 3) := by decide +kernel
theorem dX5_raisesOf_11 : decode cX5_raisesOf 11 = .ok (.if_icmp .ge 54, 3) := by decide +kernel
theorem dX5_raisesOf_14 : decode cX5_raisesOf 14 = .ok (.iload_n 3, 1) := by decide +kernel
theorem dX5_raisesOf_15 : decode cX5_raisesOf 15 = .ok (.aload_n 0, 1) := by decide +kernel
theorem dX5_raisesOf_16 : decode cX5_raisesOf 16 = .ok (.getfield 31, 3) := by decide +kernel
theorem dX5_raisesOf_19 : decode cX5_raisesOf 19 = .ok (.iload 4, 2) := by decide +kernel
theorem dX5_raisesOf_21 : decode cX5_raisesOf 21 = .ok (.iaload, 1) := by decide +kernel
theorem dX5_raisesOf_22 : decode cX5_raisesOf 22 = .ok (.ifCond .ne 34, 3) := by decide +kernel
theorem dX5_raisesOf_25 : decode cX5_raisesOf 25 = .ok (.aload_n 0, 1) := by decide +kernel
theorem dX5_raisesOf_26 : decode cX5_raisesOf 26 = .ok (.getfield 34, 3) := by decide +kernel
theorem dX5_raisesOf_29 : decode cX5_raisesOf 29 = .ok (.iload 4, 2) := by decide +kernel
theorem dX5_raisesOf_31 : decode cX5_raisesOf 31 = .ok (.iaload, 1) := by decide +kernel
theorem dX5_raisesOf_32 : decode cX5_raisesOf 32 = .ok (.iload_n 1, 1) := by decide +kernel
theorem dX5_raisesOf_33 : decode cX5_raisesOf 33 = .ok (.if_icmp .ne 23, 3) := by decide +kernel
theorem dX5_raisesOf_36 : decode cX5_raisesOf 36 = .ok (.aload_n 0, 1) := by decide +kernel
theorem dX5_raisesOf_37 : decode cX5_raisesOf 37 = .ok (.getfield 37, 3) := by decide +kernel
theorem dX5_raisesOf_40 : decode cX5_raisesOf 40 = .ok (.iload 4, 2) := by decide +kernel
theorem dX5_raisesOf_42 : decode cX5_raisesOf 42 = .ok (.iaload, 1) := by decide +kernel
theorem dX5_raisesOf_43 : decode cX5_raisesOf 43 = .ok (.aload_n 0, 1) := by decide +kernel
theorem dX5_raisesOf_44 : decode cX5_raisesOf 44 = .ok (.getfield 62, 3) := by decide +kernel
theorem dX5_raisesOf_47 : decode cX5_raisesOf 47 = .ok (.iload_n 2, 1) := by decide +kernel
theorem dX5_raisesOf_48 : decode cX5_raisesOf 48 = .ok (.isub, 1) := by decide +kernel
theorem dX5_raisesOf_49 : decode cX5_raisesOf 49 = .ok (.if_icmp .le 7, 3) := by decide +kernel
theorem dX5_raisesOf_52 : decode cX5_raisesOf 52 = .ok (.iconst 1, 1) := by decide +kernel
theorem dX5_raisesOf_53 : decode cX5_raisesOf 53 = .ok (.goto 4, 3) := by decide +kernel
theorem dX5_raisesOf_56 : decode cX5_raisesOf 56 = .ok (.iconst 0, 1) := by decide +kernel
theorem dX5_raisesOf_57 : decode cX5_raisesOf 57 = .ok (.iadd, 1) := by decide +kernel
theorem dX5_raisesOf_58 : decode cX5_raisesOf 58 = .ok (.istore_n 3, 1) := by decide +kernel
theorem dX5_raisesOf_59 : decode cX5_raisesOf 59 = .ok (.iinc 4 1, 3) := by decide +kernel
theorem dX5_raisesOf_62 : decode cX5_raisesOf 62 = .ok (.goto (-57), 3) := by decide +kernel
theorem dX5_raisesOf_65 : decode cX5_raisesOf 65 = .ok (.iload_n 3, 1) := by decide +kernel
theorem dX5_raisesOf_66 : decode cX5_raisesOf 66 = .ok (.ireturn, 1) := by decide +kernel
theorem dX5_stateOf_0 : decode cX5_stateOf 0 = .ok (.aload_n 0, 1) := by decide +kernel
theorem dX5_stateOf_1 : decode cX5_stateOf 1 = .ok (.getfield 68, 3) := by decide +kernel
theorem dX5_stateOf_4 : decode cX5_stateOf 4 = .ok (.iload_n 1, 1) := by decide +kernel
theorem dX5_stateOf_5 : decode cX5_stateOf 5 = .ok (.invokestatic 47, 3) := by decide +kernel
theorem dX5_stateOf_8 : decode cX5_stateOf 8 = .ok (.ifCond .ne 5, 3) := by decide +kernel
theorem dX5_stateOf_11 : decode cX5_stateOf 11 = .ok (.iconst 0, 1) := by decide +kernel
theorem dX5_stateOf_12 : decode cX5_stateOf 12 = .ok (.ireturn, 1) := by decide +kernel
theorem dX5_stateOf_13 : decode cX5_stateOf 13 = .ok (.aload_n 0, 1) := by decide +kernel
theorem dX5_stateOf_14 : decode cX5_stateOf 14 = .ok (.iload_n 1, 1) := by decide +kernel
theorem dX5_stateOf_15 : decode cX5_stateOf 15 = .ok (.bipush 10, 2) := by decide +kernel
theorem dX5_stateOf_17 : decode cX5_stateOf 17 = .ok (.invokevirtual 85, 3) := by decide +kernel
theorem dX5_stateOf_20 : decode cX5_stateOf 20 = .ok (.iconst 3, 1) := by decide +kernel
theorem dX5_stateOf_21 : decode cX5_stateOf 21 = .ok (.if_icmp .lt 7, 3) := by decide +kernel
theorem dX5_stateOf_24 : decode cX5_stateOf 24 = .ok (.iconst 2, 1) := by decide +kernel
theorem dX5_stateOf_25 : decode cX5_stateOf 25 = .ok (.goto 22, 3) := by decide +kernel
theorem dX5_stateOf_28 : decode cX5_stateOf 28 = .ok (.aload_n 0, 1) := by decide +kernel
theorem dX5_stateOf_29 : decode cX5_stateOf 29 = .ok (.getfield 13, 3) := by decide +kernel
theorem dX5_stateOf_32 : decode cX5_stateOf 32 = .ok (.iload_n 1, 1) := by decide +kernel
theorem dX5_stateOf_33 : decode cX5_stateOf 33 = .ok (.iaload, 1) := by decide +kernel
theorem dX5_stateOf_34 : decode cX5_stateOf 34 = .ok (.aload_n 0, 1) := by decide +kernel
theorem dX5_stateOf_35 : decode cX5_stateOf 35 = .ok (.getfield 68, 3) := by decide +kernel
theorem dX5_stateOf_38 : decode cX5_stateOf 38 = .ok (.iand, 1) := by decide +kernel
theorem dX5_stateOf_39 : decode cX5_stateOf 39 = .ok (.ifCond .eq 7, 3) := by decide +kernel
theorem dX5_stateOf_42 : decode cX5_stateOf 42 = .ok (.iconst 3, 1) := by decide +kernel
theorem dX5_stateOf_43 : decode cX5_stateOf 43 = .ok (.goto 4, 3) := by decide +kernel
theorem dX5_stateOf_46 : decode cX5_stateOf 46 = .ok (.iconst 1, 1) := by decide +kernel
theorem dX5_stateOf_47 : decode cX5_stateOf 47 = .ok (.ireturn, 1) := by decide +kernel
theorem dX5_state_0 : decode cX5_state 0 = .ok (.aload_n 0, 1) := by decide +kernel
theorem dX5_state_1 : decode cX5_state 1 = .ok (.iload_n 1, 1) := by decide +kernel
theorem dX5_state_2 : decode cX5_state 2 = .ok (.invokestatic 51, 3) := by decide +kernel
theorem dX5_state_5 : decode cX5_state 5 = .ok (.iconst 1, 1) := by decide +kernel
theorem dX5_state_6 : decode cX5_state 6 = .ok (.invokevirtual 55, 3) := by decide +kernel
theorem dX5_state_9 : decode cX5_state 9 = .ok (.ifCond .eq 11, 3) := by decide +kernel
theorem dX5_state_12 : decode cX5_state 12 = .ok (.aload_n 0, 1) := by decide +kernel
theorem dX5_state_13 : decode cX5_state 13 = .ok (.iload_n 1, 1) := by decide +kernel
theorem dX5_state_14 : decode cX5_state 14 = .ok (.invokevirtual 89, 3) := by decide +kernel
theorem dX5_state_17 : decode cX5_state 17 = .ok (.goto 4, 3) := by decide +kernel
theorem dX5_state_20 : decode cX5_state 20 = .ok (.iconst 0, 1) := by decide +kernel
theorem dX5_state_21 : decode cX5_state 21 = .ok (.ireturn, 1) := by decide +kernel
theorem dX5_nodesThatAre_0 : decode cX5_nodesThatAre 0 = .ok (.aload_n 0, 1) := by decide +kernel
theorem dX5_nodesThatAre_1 : decode cX5_nodesThatAre 1 = .ok (.iload_n 1, 1) := by decide +kernel
theorem dX5_nodesThatAre_2 : decode cX5_nodesThatAre 2 = .ok (.ifCond .lt 12, 3) := by decide +kernel
theorem dX5_nodesThatAre_5 : decode cX5_nodesThatAre 5 = .ok (.iload_n 1, 1) := by decide +kernel
theorem dX5_nodesThatAre_6 : decode cX5_nodesThatAre 6 = .ok (.iconst 3, 1) := by decide +kernel
theorem dX5_nodesThatAre_7 : decode cX5_nodesThatAre 7 = .ok (.if_icmp .gt 7, 3) := by decide +kernel
theorem dX5_nodesThatAre_10 : decode cX5_nodesThatAre 10 = .ok (.iconst 1, 1) := by decide +kernel
theorem dX5_nodesThatAre_11 : decode cX5_nodesThatAre 11 = .ok (.goto 4, 3) := by decide +kernel
theorem dX5_nodesThatAre_14 : decode cX5_nodesThatAre 14 = .ok (.iconst 0, 1) := by decide +kernel
theorem dX5_nodesThatAre_15 : decode cX5_nodesThatAre 15 = .ok (.iconst 1, 1) := by decide +kernel
theorem dX5_nodesThatAre_16 : decode cX5_nodesThatAre 16 = .ok (.invokevirtual 55, 3) := by decide +kernel
theorem dX5_nodesThatAre_19 : decode cX5_nodesThatAre 19 = .ok (.ifCond .ne 5, 3) := by decide +kernel
theorem dX5_nodesThatAre_22 : decode cX5_nodesThatAre 22 = .ok (.iconst 0, 1) := by decide +kernel
theorem dX5_nodesThatAre_23 : decode cX5_nodesThatAre 23 = .ok (.ireturn, 1) := by decide +kernel
theorem dX5_nodesThatAre_24 : decode cX5_nodesThatAre 24 = .ok (.iconst 0, 1) := by decide +kernel
theorem dX5_nodesThatAre_25 : decode cX5_nodesThatAre 25 = .ok (.istore_n 2, 1) := by decide +kernel
theorem dX5_nodesThatAre_26 : decode cX5_nodesThatAre 26 = .ok (.iconst 0, 1) := by decide +kernel
theorem dX5_nodesThatAre_27 : decode cX5_nodesThatAre 27 = .ok (.istore_n 3, 1) := by decide +kernel
theorem dX5_nodesThatAre_28 : decode cX5_nodesThatAre 28 = .ok (.iload_n 3, 1) := by decide +kernel
theorem dX5_nodesThatAre_29 : decode cX5_nodesThatAre 29 = .ok (.bipush 14, 2) := by decide +kernel
theorem dX5_nodesThatAre_31 : decode cX5_nodesThatAre 31 = .ok (.if_icmp .ge 26, 3) := by decide +kernel
theorem dX5_nodesThatAre_34 : decode cX5_nodesThatAre 34 = .ok (.iload_n 2, 1) := by decide +kernel
theorem dX5_nodesThatAre_35 : decode cX5_nodesThatAre 35 = .ok (.aload_n 0, 1) := by decide +kernel
theorem dX5_nodesThatAre_36 : decode cX5_nodesThatAre 36 = .ok (.iload_n 3, 1) := by decide +kernel
theorem dX5_nodesThatAre_37 : decode cX5_nodesThatAre 37 = .ok (.invokevirtual 89, 3) := by decide +kernel
theorem dX5_nodesThatAre_40 : decode cX5_nodesThatAre 40 = .ok (.iload_n 1, 1) := by decide +kernel
theorem dX5_nodesThatAre_41 : decode cX5_nodesThatAre 41 = .ok (.if_icmp .ne 7, 3) := by decide +kernel
theorem dX5_nodesThatAre_44 : decode cX5_nodesThatAre 44 = .ok (.iconst 1, 1) := by decide +kernel
theorem dX5_nodesThatAre_45 : decode cX5_nodesThatAre 45 = .ok (.goto 4, 3) := by decide +kernel
theorem dX5_nodesThatAre_48 : decode cX5_nodesThatAre 48 = .ok (.iconst 0, 1) := by decide +kernel
theorem dX5_nodesThatAre_49 : decode cX5_nodesThatAre 49 = .ok (.iadd, 1) := by decide +kernel
theorem dX5_nodesThatAre_50 : decode cX5_nodesThatAre 50 = .ok (.istore_n 2, 1) := by decide +kernel
theorem dX5_nodesThatAre_51 : decode cX5_nodesThatAre 51 = .ok (.iinc 3 1, 3) := by decide +kernel
theorem dX5_nodesThatAre_54 : decode cX5_nodesThatAre 54 = .ok (.goto (-26), 3) := by decide +kernel
theorem dX5_nodesThatAre_57 : decode cX5_nodesThatAre 57 = .ok (.iload_n 2, 1) := by decide +kernel
theorem dX5_nodesThatAre_58 : decode cX5_nodesThatAre 58 = .ok (.ireturn, 1) := by decide +kernel
theorem dX5_raises_0 : decode cX5_raises 0 = .ok (.aload_n 0, 1) := by decide +kernel
theorem dX5_raises_1 : decode cX5_raises 1 = .ok (.iload_n 1, 1) := by decide +kernel
theorem dX5_raises_2 : decode cX5_raises 2 = .ok (.invokestatic 51, 3) := by decide +kernel
theorem dX5_raises_5 : decode cX5_raises 5 = .ok (.iload_n 2, 1) := by decide +kernel
theorem dX5_raises_6 : decode cX5_raises 6 = .ok (.iconst 1, 1) := by decide +kernel
theorem dX5_raises_7 : decode cX5_raises 7 = .ok (.if_icmp .lt 14, 3) := by decide +kernel
theorem dX5_raises_10 : decode cX5_raises 10 = .ok (.iload_n 2, 1) := by decide +kernel
theorem dX5_raises_11 : decode cX5_raises 11 = .ok (.sipush 1000, 3) := by decide +kernel
theorem dX5_raises_14 : decode cX5_raises 14 = .ok (.if_icmp .gt 7, 3) := by decide +kernel
theorem dX5_raises_17 : decode cX5_raises 17 = .ok (.iconst 1, 1) := by decide +kernel
theorem dX5_raises_18 : decode cX5_raises 18 = .ok (.goto 4, 3) := by decide +kernel
theorem dX5_raises_21 : decode cX5_raises 21 = .ok (.iconst 0, 1) := by decide +kernel
theorem dX5_raises_22 : decode cX5_raises 22 = .ok (.invokevirtual 55, 3) := by decide +kernel
theorem dX5_raises_25 : decode cX5_raises 25 = .ok (.ifCond .eq 12, 3) := by decide +kernel
theorem dX5_raises_28 : decode cX5_raises 28 = .ok (.aload_n 0, 1) := by decide +kernel
theorem dX5_raises_29 : decode cX5_raises 29 = .ok (.iload_n 1, 1) := by decide +kernel
theorem dX5_raises_30 : decode cX5_raises 30 = .ok (.iload_n 2, 1) := by decide +kernel
theorem dX5_raises_31 : decode cX5_raises 31 = .ok (.invokevirtual 85, 3) := by decide +kernel
theorem dX5_raises_34 : decode cX5_raises 34 = .ok (.goto 4, 3) := by decide +kernel
theorem dX5_raises_37 : decode cX5_raises 37 = .ok (.iconst 0, 1) := by decide +kernel
theorem dX5_raises_38 : decode cX5_raises 38 = .ok (.ireturn, 1) := by decide +kernel
theorem dX5_isEvent_0 : decode cX5_isEvent 0 = .ok (.aload_n 0, 1) := by decide +kernel
theorem dX5_isEvent_1 : decode cX5_isEvent 1 = .ok (.iload_n 1, 1) := by decide +kernel
theorem dX5_isEvent_2 : decode cX5_isEvent 2 = .ok (.ifCond .lt 15, 3) := by decide +kernel
theorem dX5_isEvent_5 : decode cX5_isEvent 5 = .ok (.iload_n 1, 1) := by decide +kernel
theorem dX5_isEvent_6 : decode cX5_isEvent 6 = .ok (.aload_n 0, 1) := by decide +kernel
theorem dX5_isEvent_7 : decode cX5_isEvent 7 = .ok (.getfield 65, 3) := by decide +kernel
theorem dX5_isEvent_10 : decode cX5_isEvent 10 = .ok (.if_icmp .ge 7, 3) := by decide +kernel
theorem dX5_isEvent_13 : decode cX5_isEvent 13 = .ok (.iconst 1, 1) := by decide +kernel
theorem dX5_isEvent_14 : decode cX5_isEvent 14 = .ok (.goto 4, 3) := by decide +kernel
theorem dX5_isEvent_17 : decode cX5_isEvent 17 = .ok (.iconst 0, 1) := by decide +kernel
theorem dX5_isEvent_18 : decode cX5_isEvent 18 = .ok (.iconst 1, 1) := by decide +kernel
theorem dX5_isEvent_19 : decode cX5_isEvent 19 = .ok (.invokevirtual 55, 3) := by decide +kernel
theorem dX5_isEvent_22 : decode cX5_isEvent 22 = .ok (.ireturn, 1) := by decide +kernel
theorem dX5_events_0 : decode cX5_events 0 = .ok (.aload_n 0, 1) := by decide +kernel
theorem dX5_events_1 : decode cX5_events 1 = .ok (.iconst 0, 1) := by decide +kernel
theorem dX5_events_2 : decode cX5_events 2 = .ok (.putfield 43, 3) := by decide +kernel
theorem dX5_events_5 : decode cX5_events 5 = .ok (.aload_n 0, 1) := by decide +kernel
theorem dX5_events_6 : decode cX5_events 6 = .ok (.getfield 65, 3) := by decide +kernel
theorem dX5_events_9 : decode cX5_events 9 = .ok (.ireturn, 1) := by decide +kernel
theorem dX5_eventKind_0 : decode cX5_eventKind 0 = .ok (.aload_n 0, 1) := by decide +kernel
theorem dX5_eventKind_1 : decode cX5_eventKind 1 = .ok (.iload_n 1, 1) := by decide +kernel
theorem dX5_eventKind_2 : decode cX5_eventKind 2 = .ok (.invokevirtual 92, 3) := by decide +kernel
theorem dX5_eventKind_5 : decode cX5_eventKind 5 = .ok (.ifCond .eq 12, 3) := by decide +kernel
theorem dX5_eventKind_8 : decode cX5_eventKind 8 = .ok (.aload_n 0, 1) := by decide +kernel
theorem dX5_eventKind_9 : decode cX5_eventKind 9 = .ok (.getfield 31, 3) := by decide +kernel
theorem dX5_eventKind_12 : decode cX5_eventKind 12 = .ok (.iload_n 1, 1) := by decide +kernel
theorem dX5_eventKind_13 : decode cX5_eventKind 13 = .ok (.iaload, 1) := by decide +kernel
theorem dX5_eventKind_14 : decode cX5_eventKind 14 = .ok (.goto 4, 3) := by decide +kernel
theorem dX5_eventKind_17 : decode cX5_eventKind 17 = .ok (.iconst 0, 1) := by decide +kernel
theorem dX5_eventKind_18 : decode cX5_eventKind 18 = .ok (.ireturn, 1) := by decide +kernel
theorem dX5_eventNode_0 : decode cX5_eventNode 0 = .ok (.aload_n 0, 1) := by decide +kernel
theorem dX5_eventNode_1 : decode cX5_eventNode 1 = .ok (.iload_n 1, 1) := by decide +kernel
theorem dX5_eventNode_2 : decode cX5_eventNode 2 = .ok (.invokevirtual 92, 3) := by decide +kernel
theorem dX5_eventNode_5 : decode cX5_eventNode 5 = .ok (.ifCond .eq 12, 3) := by decide +kernel
theorem dX5_eventNode_8 : decode cX5_eventNode 8 = .ok (.aload_n 0, 1) := by decide +kernel
theorem dX5_eventNode_9 : decode cX5_eventNode 9 = .ok (.getfield 34, 3) := by decide +kernel
theorem dX5_eventNode_12 : decode cX5_eventNode 12 = .ok (.iload_n 1, 1) := by decide +kernel
theorem dX5_eventNode_13 : decode cX5_eventNode 13 = .ok (.iaload, 1) := by decide +kernel
theorem dX5_eventNode_14 : decode cX5_eventNode 14 = .ok (.goto 4, 3) := by decide +kernel
theorem dX5_eventNode_17 : decode cX5_eventNode 17 = .ok (.iconst 0, 1) := by decide +kernel
theorem dX5_eventNode_18 : decode cX5_eventNode 18 = .ok (.ireturn, 1) := by decide +kernel
theorem dX5_eventTime_0 : decode cX5_eventTime 0 = .ok (.aload_n 0, 1) := by decide +kernel
theorem dX5_eventTime_1 : decode cX5_eventTime 1 = .ok (.iload_n 1, 1) := by decide +kernel
theorem dX5_eventTime_2 : decode cX5_eventTime 2 = .ok (.invokevirtual 92, 3) := by decide +kernel
theorem dX5_eventTime_5 : decode cX5_eventTime 5 = .ok (.ifCond .eq 12, 3) := by decide +kernel
theorem dX5_eventTime_8 : decode cX5_eventTime 8 = .ok (.aload_n 0, 1) := by decide +kernel
theorem dX5_eventTime_9 : decode cX5_eventTime 9 = .ok (.getfield 37, 3) := by decide +kernel
theorem dX5_eventTime_12 : decode cX5_eventTime 12 = .ok (.iload_n 1, 1) := by decide +kernel
theorem dX5_eventTime_13 : decode cX5_eventTime 13 = .ok (.iaload, 1) := by decide +kernel
theorem dX5_eventTime_14 : decode cX5_eventTime 14 = .ok (.goto 4, 3) := by decide +kernel
theorem dX5_eventTime_17 : decode cX5_eventTime 17 = .ok (.iconst 0, 1) := by decide +kernel
theorem dX5_eventTime_18 : decode cX5_eventTime 18 = .ok (.ireturn, 1) := by decide +kernel
theorem dX5_eventLength_0 : decode cX5_eventLength 0 = .ok (.aload_n 0, 1) := by decide +kernel
theorem dX5_eventLength_1 : decode cX5_eventLength 1 = .ok (.iload_n 1, 1) := by decide +kernel
theorem dX5_eventLength_2 : decode cX5_eventLength 2 = .ok (.invokevirtual 92, 3) := by decide +kernel
theorem dX5_eventLength_5 : decode cX5_eventLength 5 = .ok (.ifCond .eq 12, 3) := by decide +kernel
theorem dX5_eventLength_8 : decode cX5_eventLength 8 = .ok (.aload_n 0, 1) := by decide +kernel
theorem dX5_eventLength_9 : decode cX5_eventLength 9 = .ok (.getfield 40, 3) := by decide +kernel
theorem dX5_eventLength_12 : decode cX5_eventLength 12 = .ok (.iload_n 1, 1) := by decide +kernel
theorem dX5_eventLength_13 : decode cX5_eventLength 13 = .ok (.iaload, 1) := by decide +kernel
theorem dX5_eventLength_14 : decode cX5_eventLength 14 = .ok (.goto 4, 3) := by decide +kernel
theorem dX5_eventLength_17 : decode cX5_eventLength 17 = .ok (.iconst 0, 1) := by decide +kernel
theorem dX5_eventLength_18 : decode cX5_eventLength 18 = .ok (.ireturn, 1) := by decide +kernel
theorem dX5_openTickets_0 : decode cX5_openTickets 0 = .ok (.aload_n 0, 1) := by decide +kernel
theorem dX5_openTickets_1 : decode cX5_openTickets 1 = .ok (.iconst 0, 1) := by decide +kernel
theorem dX5_openTickets_2 : decode cX5_openTickets 2 = .ok (.putfield 43, 3) := by decide +kernel
theorem dX5_openTickets_5 : decode cX5_openTickets 5 = .ok (.iconst 0, 1) := by decide +kernel
theorem dX5_openTickets_6 : decode cX5_openTickets 6 = .ok (.istore_n 1, 1) := by decide +kernel
theorem dX5_openTickets_7 : decode cX5_openTickets 7 = .ok (.iconst 1, 1) := by decide +kernel
theorem dX5_openTickets_8 : decode cX5_openTickets 8 = .ok (.istore_n 2, 1) := by decide +kernel
theorem dX5_openTickets_9 : decode cX5_openTickets 9 = .ok (.iload_n 2, 1) := by decide +kernel
theorem dX5_openTickets_10 : decode cX5_openTickets 10 = .ok (.aload_n 0, 1) := by decide +kernel
theorem dX5_openTickets_11 : decode cX5_openTickets 11 = .ok (.getfield 75, 3) := by decide +kernel
theorem dX5_openTickets_14 : decode cX5_openTickets 14 = .ok (.if_icmp .gt 27, 3) := by decide +kernel
theorem dX5_openTickets_17 : decode cX5_openTickets 17 = .ok (.iload_n 1, 1) := by decide +kernel
theorem dX5_openTickets_18 : decode cX5_openTickets 18 = .ok (.aload_n 0, 1) := by decide +kernel
theorem dX5_openTickets_19 : decode cX5_openTickets 19 = .ok (.getfield 25, 3) := by decide +kernel
theorem dX5_openTickets_22 : decode cX5_openTickets 22 = .ok (.iload_n 2, 1) := by decide +kernel
theorem dX5_openTickets_23 : decode cX5_openTickets 23 = .ok (.iaload, 1) := by decide +kernel
theorem dX5_openTickets_24 : decode cX5_openTickets 24 = .ok (.iconst 1, 1) := by decide +kernel
theorem dX5_openTickets_25 : decode cX5_openTickets 25 = .ok (.if_icmp .ne 7, 3) := by decide +kernel
theorem dX5_openTickets_28 : decode cX5_openTickets 28 = .ok (.iconst 1, 1) := by decide +kernel
theorem dX5_openTickets_29 : decode cX5_openTickets 29 = .ok (.goto 4, 3) := by decide +kernel
theorem dX5_openTickets_32 : decode cX5_openTickets 32 = .ok (.iconst 0, 1) := by decide +kernel
theorem dX5_openTickets_33 : decode cX5_openTickets 33 = .ok (.iadd, 1) := by decide +kernel
theorem dX5_openTickets_34 : decode cX5_openTickets 34 = .ok (.istore_n 1, 1) := by decide +kernel
theorem dX5_openTickets_35 : decode cX5_openTickets 35 = .ok (.iinc 2 1, 3) := by decide +kernel
theorem dX5_openTickets_38 : decode cX5_openTickets 38 = .ok (.goto (-29), 3) := by decide +kernel
theorem dX5_openTickets_41 : decode cX5_openTickets 41 = .ok (.iload_n 1, 1) := by decide +kernel
theorem dX5_openTickets_42 : decode cX5_openTickets 42 = .ok (.ireturn, 1) := by decide +kernel
theorem dX5_ticketOf_0 : decode cX5_ticketOf 0 = .ok (.aload_n 0, 1) := by decide +kernel
theorem dX5_ticketOf_1 : decode cX5_ticketOf 1 = .ok (.iload_n 1, 1) := by decide +kernel
theorem dX5_ticketOf_2 : decode cX5_ticketOf 2 = .ok (.invokestatic 51, 3) := by decide +kernel
theorem dX5_ticketOf_5 : decode cX5_ticketOf 5 = .ok (.iconst 1, 1) := by decide +kernel
theorem dX5_ticketOf_6 : decode cX5_ticketOf 6 = .ok (.invokevirtual 55, 3) := by decide +kernel
theorem dX5_ticketOf_9 : decode cX5_ticketOf 9 = .ok (.istore_n 2, 1) := by decide +kernel
theorem dX5_ticketOf_10 : decode cX5_ticketOf 10 = .ok (.iload_n 2, 1) := by decide +kernel
theorem dX5_ticketOf_11 : decode cX5_ticketOf 11 = .ok (.ifCond .eq 27, 3) := by decide +kernel
theorem dX5_ticketOf_14 : decode cX5_ticketOf 14 = .ok (.aload_n 0, 1) := by decide +kernel
theorem dX5_ticketOf_15 : decode cX5_ticketOf 15 = .ok (.getfield 68, 3) := by decide +kernel
theorem dX5_ticketOf_18 : decode cX5_ticketOf 18 = .ok (.iload_n 1, 1) := by decide +kernel
theorem dX5_ticketOf_19 : decode cX5_ticketOf 19 = .ok (.invokestatic 47, 3) := by decide +kernel
theorem dX5_ticketOf_22 : decode cX5_ticketOf 22 = .ok (.ifCond .eq 12, 3) := by decide +kernel
theorem dX5_ticketOf_25 : decode cX5_ticketOf 25 = .ok (.aload_n 0, 1) := by decide +kernel
theorem dX5_ticketOf_26 : decode cX5_ticketOf 26 = .ok (.getfield 19, 3) := by decide +kernel
theorem dX5_ticketOf_29 : decode cX5_ticketOf 29 = .ok (.iload_n 1, 1) := by decide +kernel
theorem dX5_ticketOf_30 : decode cX5_ticketOf 30 = .ok (.iaload, 1) := by decide +kernel
theorem dX5_ticketOf_31 : decode cX5_ticketOf 31 = .ok (.goto 8, 3) := by decide +kernel
theorem dX5_ticketOf_34 : decode cX5_ticketOf 34 = .ok (.iconst (-1), 1) := by decide +kernel
theorem dX5_ticketOf_35 : decode cX5_ticketOf 35 = .ok (.goto 4, 3) := by decide +kernel
theorem dX5_ticketOf_38 : decode cX5_ticketOf 38 = .ok (.iconst 0, 1) := by decide +kernel
theorem dX5_ticketOf_39 : decode cX5_ticketOf 39 = .ok (.ireturn, 1) := by decide +kernel
theorem dX5_isTicket_0 : decode cX5_isTicket 0 = .ok (.iload_n 1, 1) := by decide +kernel
theorem dX5_isTicket_1 : decode cX5_isTicket 1 = .ok (.iconst 1, 1) := by decide +kernel
theorem dX5_isTicket_2 : decode cX5_isTicket 2 = .ok (.if_icmp .lt 15, 3) := by decide +kernel
theorem dX5_isTicket_5 : decode cX5_isTicket 5 = .ok (.iload_n 1, 1) := by decide +kernel
theorem dX5_isTicket_6 : decode cX5_isTicket 6 = .ok (.aload_n 0, 1) := by decide +kernel
theorem dX5_isTicket_7 : decode cX5_isTicket 7 = .ok (.getfield 75, 3) := by decide +kernel
theorem dX5_isTicket_10 : decode cX5_isTicket 10 = .ok (.if_icmp .gt 7, 3) := by decide +kernel
theorem dX5_isTicket_13 : decode cX5_isTicket 13 = .ok (.iconst 1, 1) := by decide +kernel
theorem dX5_isTicket_14 : decode cX5_isTicket 14 = .ok (.goto 4, 3) := by decide +kernel
theorem dX5_isTicket_17 : decode cX5_isTicket 17 = .ok (.iconst 0, 1) := by decide +kernel
theorem dX5_isTicket_18 : decode cX5_isTicket 18 = .ok (.ireturn, 1) := by decide +kernel
theorem dX5_ticketState_0 : decode cX5_ticketState 0 = .ok (.aload_n 0, 1) := by decide +kernel
theorem dX5_ticketState_1 : decode cX5_ticketState 1 = .ok (.iconst 0, 1) := by decide +kernel
theorem dX5_ticketState_2 : decode cX5_ticketState 2 = .ok (.putfield 43, 3) := by decide +kernel
theorem dX5_ticketState_5 : decode cX5_ticketState 5 = .ok (.aload_n 0, 1) := by decide +kernel
theorem dX5_ticketState_6 : decode cX5_ticketState 6 = .ok (.iload_n 1, 1) := by decide +kernel
theorem dX5_ticketState_7 : decode cX5_ticketState 7 = .ok (.invokevirtual 95, 3) := by decide +kernel
theorem dX5_ticketState_10 : decode cX5_ticketState 10 = .ok (.ifCond .eq 12, 3) := by decide +kernel
theorem dX5_ticketState_13 : decode cX5_ticketState 13 = .ok (.aload_n 0, 1) := by decide +kernel
theorem dX5_ticketState_14 : decode cX5_ticketState 14 = .ok (.getfield 25, 3) := by decide +kernel
theorem dX5_ticketState_17 : decode cX5_ticketState 17 = .ok (.iload_n 1, 1) := by decide +kernel
theorem dX5_ticketState_18 : decode cX5_ticketState 18 = .ok (.iaload, 1) := by decide +kernel
theorem dX5_ticketState_19 : decode cX5_ticketState 19 = .ok (.goto 4, 3) := by decide +kernel
theorem dX5_ticketState_22 : decode cX5_ticketState 22 = .ok (.iconst 0, 1) := by decide +kernel
theorem dX5_ticketState_23 : decode cX5_ticketState 23 = .ok (.ireturn, 1) := by decide +kernel
theorem dX5_ticketSize_0 : decode cX5_ticketSize 0 = .ok (.aload_n 0, 1) := by decide +kernel
theorem dX5_ticketSize_1 : decode cX5_ticketSize 1 = .ok (.iconst 0, 1) := by decide +kernel
theorem dX5_ticketSize_2 : decode cX5_ticketSize 2 = .ok (.putfield 43, 3) := by decide +kernel
theorem dX5_ticketSize_5 : decode cX5_ticketSize 5 = .ok (.aload_n 0, 1) := by decide +kernel
theorem dX5_ticketSize_6 : decode cX5_ticketSize 6 = .ok (.iload_n 1, 1) := by decide +kernel
theorem dX5_ticketSize_7 : decode cX5_ticketSize 7 = .ok (.invokevirtual 95, 3) := by decide +kernel
theorem dX5_ticketSize_10 : decode cX5_ticketSize 10 = .ok (.ifCond .eq 15, 3) := by decide +kernel
theorem dX5_ticketSize_13 : decode cX5_ticketSize 13 = .ok (.aload_n 0, 1) := by decide +kernel
theorem dX5_ticketSize_14 : decode cX5_ticketSize 14 = .ok (.getfield 22, 3) := by decide +kernel
theorem dX5_ticketSize_17 : decode cX5_ticketSize 17 = .ok (.iload_n 1, 1) := by decide +kernel
theorem dX5_ticketSize_18 : decode cX5_ticketSize 18 = .ok (.iaload, 1) := by decide +kernel
theorem dX5_ticketSize_19 : decode cX5_ticketSize 19 = .ok (.invokestatic 82, 3) := by decide +kernel
theorem dX5_ticketSize_22 : decode cX5_ticketSize 22 = .ok (.goto 4, 3) := by decide +kernel
theorem dX5_ticketSize_25 : decode cX5_ticketSize 25 = .ok (.iconst 0, 1) := by decide +kernel
theorem dX5_ticketSize_26 : decode cX5_ticketSize 26 = .ok (.ireturn, 1) := by decide +kernel
theorem dX5_mergedInto_0 : decode cX5_mergedInto 0 = .ok (.aload_n 0, 1) := by decide +kernel
theorem dX5_mergedInto_1 : decode cX5_mergedInto 1 = .ok (.iconst 0, 1) := by decide +kernel
theorem dX5_mergedInto_2 : decode cX5_mergedInto 2 = .ok (.putfield 43, 3) := by decide +kernel
theorem dX5_mergedInto_5 : decode cX5_mergedInto 5 = .ok (.aload_n 0, 1) := by decide +kernel
theorem dX5_mergedInto_6 : decode cX5_mergedInto 6 = .ok (.iload_n 1, 1) := by decide +kernel
theorem dX5_mergedInto_7 : decode cX5_mergedInto 7 = .ok (.invokevirtual 95, 3) := by decide +kernel
theorem dX5_mergedInto_10 : decode cX5_mergedInto 10 = .ok (.ifCond .eq 22, 3) := by decide +kernel
theorem dX5_mergedInto_13 : decode cX5_mergedInto 13 = .ok (.aload_n 0, 1) := by decide +kernel
theorem dX5_mergedInto_14 : decode cX5_mergedInto 14 = .ok (.getfield 25, 3) := by decide +kernel
theorem dX5_mergedInto_17 : decode cX5_mergedInto 17 = .ok (.iload_n 1, 1) := by decide +kernel
theorem dX5_mergedInto_18 : decode cX5_mergedInto 18 = .ok (.iaload, 1) := by decide +kernel
theorem dX5_mergedInto_19 : decode cX5_mergedInto 19 = .ok (.iconst 3, 1) := by decide +kernel
theorem dX5_mergedInto_20 : decode cX5_mergedInto 20 = .ok (.if_icmp .ne 12, 3) := by decide +kernel
theorem dX5_mergedInto_23 : decode cX5_mergedInto 23 = .ok (.aload_n 0, 1) := by decide +kernel
theorem dX5_mergedInto_24 : decode cX5_mergedInto 24 = .ok (.getfield 28, 3) := by decide +kernel
theorem dX5_mergedInto_27 : decode cX5_mergedInto 27 = .ok (.iload_n 1, 1) := by decide +kernel
theorem dX5_mergedInto_28 : decode cX5_mergedInto 28 = .ok (.iaload, 1) := by decide +kernel
theorem dX5_mergedInto_29 : decode cX5_mergedInto 29 = .ok (.goto 4, 3) := by decide +kernel
theorem dX5_mergedInto_32 : decode cX5_mergedInto 32 = .ok (.iconst (-1), 1) := by decide +kernel
theorem dX5_mergedInto_33 : decode cX5_mergedInto 33 = .ok (.ireturn, 1) := by decide +kernel
theorem dX5_plausible_0 : decode cX5_plausible 0 = .ok (.iconst 0, 1) := by decide +kernel
theorem dX5_plausible_1 : decode cX5_plausible 1 = .ok (.istore_n 2, 1) := by decide +kernel
theorem dX5_plausible_2 : decode cX5_plausible 2 = .ok (.iconst 0, 1) := by decide +kernel
theorem dX5_plausible_3 : decode cX5_plausible 3 = .ok (.istore_n 3, 1) := by decide +kernel
theorem dX5_plausible_4 : decode cX5_plausible 4 = .ok (.iload_n 3, 1) := by decide +kernel
theorem dX5_plausible_5 : decode cX5_plausible 5 = .ok (.bipush 14, 2) := by decide +kernel
theorem dX5_plausible_7 : decode cX5_plausible 7 = .ok (.if_icmp .ge 32, 3) := by decide +kernel
theorem dX5_plausible_10 : decode cX5_plausible 10 = .ok (.iload_n 2, 1) := by decide +kernel
theorem dX5_plausible_11 : decode cX5_plausible 11 = .ok (.aload_n 0, 1) := by decide +kernel
theorem dX5_plausible_12 : decode cX5_plausible 12 = .ok (.getfield 7, 3) := by decide +kernel
theorem dX5_plausible_15 : decode cX5_plausible 15 = .ok (.iload_n 3, 1) := by decide +kernel
theorem dX5_plausible_16 : decode cX5_plausible 16 = .ok (.iaload, 1) := by decide +kernel
theorem dX5_plausible_17 : decode cX5_plausible 17 = .ok (.iload_n 1, 1) := by decide +kernel
theorem dX5_plausible_18 : decode cX5_plausible 18 = .ok (.invokestatic 47, 3) := by decide +kernel
theorem dX5_plausible_21 : decode cX5_plausible 21 = .ok (.ifCond .eq 9, 3) := by decide +kernel
theorem dX5_plausible_24 : decode cX5_plausible 24 = .ok (.iconst 1, 1) := by decide +kernel
theorem dX5_plausible_25 : decode cX5_plausible 25 = .ok (.iload_n 3, 1) := by decide +kernel
theorem dX5_plausible_26 : decode cX5_plausible 26 = .ok (.ishl, 1) := by decide +kernel
theorem dX5_plausible_27 : decode cX5_plausible 27 = .ok (.goto 4, 3) := by decide +kernel
theorem dX5_plausible_30 : decode cX5_plausible 30 = .ok (.iconst 0, 1) := by decide +kernel
theorem dX5_plausible_31 : decode cX5_plausible 31 = .ok (.ior, 1) := by decide +kernel
theorem dX5_plausible_32 : decode cX5_plausible 32 = .ok (.istore_n 2, 1) := by decide +kernel
theorem dX5_plausible_33 : decode cX5_plausible 33 = .ok (.iinc 3 1, 3) := by decide +kernel
theorem dX5_plausible_36 : decode cX5_plausible 36 = .ok (.goto (-32), 3) := by decide +kernel
theorem dX5_plausible_39 : decode cX5_plausible 39 = .ok (.aload_n 0, 1) := by decide +kernel
theorem dX5_plausible_40 : decode cX5_plausible 40 = .ok (.getfield 68, 3) := by decide +kernel
theorem dX5_plausible_43 : decode cX5_plausible 43 = .ok (.iload_n 1, 1) := by decide +kernel
theorem dX5_plausible_44 : decode cX5_plausible 44 = .ok (.invokestatic 47, 3) := by decide +kernel
theorem dX5_plausible_47 : decode cX5_plausible 47 = .ok (.ifCond .ne 17, 3) := by decide +kernel
theorem dX5_plausible_50 : decode cX5_plausible 50 = .ok (.iload_n 2, 1) := by decide +kernel
theorem dX5_plausible_51 : decode cX5_plausible 51 = .ok (.ifCond .eq 17, 3) := by decide +kernel
theorem dX5_plausible_54 : decode cX5_plausible 54 = .ok (.iload_n 2, 1) := by decide +kernel
theorem dX5_plausible_55 : decode cX5_plausible 55 = .ok (.aload_n 0, 1) := by decide +kernel
theorem dX5_plausible_56 : decode cX5_plausible 56 = .ok (.getfield 68, 3) := by decide +kernel
theorem dX5_plausible_59 : decode cX5_plausible 59 = .ok (.iand, 1) := by decide +kernel
theorem dX5_plausible_60 : decode cX5_plausible 60 = .ok (.iload_n 2, 1) := by decide +kernel
theorem dX5_plausible_61 : decode cX5_plausible 61 = .ok (.if_icmp .ne 7, 3) := by decide +kernel
theorem dX5_plausible_64 : decode cX5_plausible 64 = .ok (.iconst 1, 1) := by decide +kernel
theorem dX5_plausible_65 : decode cX5_plausible 65 = .ok (.goto 4, 3) := by decide +kernel
theorem dX5_plausible_68 : decode cX5_plausible 68 = .ok (.iconst 0, 1) := by decide +kernel
theorem dX5_plausible_69 : decode cX5_plausible 69 = .ok (.ireturn, 1) := by decide +kernel
theorem dX5_isPlausible_0 : decode cX5_isPlausible 0 = .ok (.aload_n 0, 1) := by decide +kernel
theorem dX5_isPlausible_1 : decode cX5_isPlausible 1 = .ok (.iload_n 1, 1) := by decide +kernel
theorem dX5_isPlausible_2 : decode cX5_isPlausible 2 = .ok (.invokestatic 51, 3) := by decide +kernel
theorem dX5_isPlausible_5 : decode cX5_isPlausible 5 = .ok (.iconst 1, 1) := by decide +kernel
theorem dX5_isPlausible_6 : decode cX5_isPlausible 6 = .ok (.invokevirtual 55, 3) := by decide +kernel
theorem dX5_isPlausible_9 : decode cX5_isPlausible 9 = .ok (.ifCond .eq 15, 3) := by decide +kernel
theorem dX5_isPlausible_12 : decode cX5_isPlausible 12 = .ok (.aload_n 0, 1) := by decide +kernel
theorem dX5_isPlausible_13 : decode cX5_isPlausible 13 = .ok (.iload_n 1, 1) := by decide +kernel
theorem dX5_isPlausible_14 : decode cX5_isPlausible 14 = .ok (.invokevirtual 98, 3) := by decide +kernel
theorem dX5_isPlausible_17 : decode cX5_isPlausible 17 = .ok (.ifCond .eq 7, 3) := by decide +kernel
theorem dX5_isPlausible_20 : decode cX5_isPlausible 20 = .ok (.iconst 1, 1) := by decide +kernel
theorem dX5_isPlausible_21 : decode cX5_isPlausible 21 = .ok (.goto 4, 3) := by decide +kernel
theorem dX5_isPlausible_24 : decode cX5_isPlausible 24 = .ok (.iconst 0, 1) := by decide +kernel
theorem dX5_isPlausible_25 : decode cX5_isPlausible 25 = .ok (.ireturn, 1) := by decide +kernel
theorem dX5_explains_0 : decode cX5_explains 0 = .ok (.iconst 1, 1) := by decide +kernel
theorem dX5_explains_1 : decode cX5_explains 1 = .ok (.iload_n 1, 1) := by decide +kernel
theorem dX5_explains_2 : decode cX5_explains 2 = .ok (.ishl, 1) := by decide +kernel
theorem dX5_explains_3 : decode cX5_explains 3 = .ok (.istore_n 2, 1) := by decide +kernel
theorem dX5_explains_4 : decode cX5_explains 4 = .ok (.iconst 0, 1) := by decide +kernel
theorem dX5_explains_5 : decode cX5_explains 5 = .ok (.istore_n 3, 1) := by decide +kernel
theorem dX5_explains_6 : decode cX5_explains 6 = .ok (.iload_n 3, 1) := by decide +kernel
theorem dX5_explains_7 : decode cX5_explains 7 = .ok (.bipush 14, 2) := by decide +kernel
theorem dX5_explains_9 : decode cX5_explains 9 = .ok (.if_icmp .ge 32, 3) := by decide +kernel
theorem dX5_explains_12 : decode cX5_explains 12 = .ok (.iload_n 2, 1) := by decide +kernel
theorem dX5_explains_13 : decode cX5_explains 13 = .ok (.aload_n 0, 1) := by decide +kernel
theorem dX5_explains_14 : decode cX5_explains 14 = .ok (.getfield 13, 3) := by decide +kernel
theorem dX5_explains_17 : decode cX5_explains 17 = .ok (.iload_n 3, 1) := by decide +kernel
theorem dX5_explains_18 : decode cX5_explains 18 = .ok (.iaload, 1) := by decide +kernel
theorem dX5_explains_19 : decode cX5_explains 19 = .ok (.iload_n 1, 1) := by decide +kernel
theorem dX5_explains_20 : decode cX5_explains 20 = .ok (.invokestatic 47, 3) := by decide +kernel
theorem dX5_explains_23 : decode cX5_explains 23 = .ok (.ifCond .eq 9, 3) := by decide +kernel
theorem dX5_explains_26 : decode cX5_explains 26 = .ok (.iconst 1, 1) := by decide +kernel
theorem dX5_explains_27 : decode cX5_explains 27 = .ok (.iload_n 3, 1) := by decide +kernel
theorem dX5_explains_28 : decode cX5_explains 28 = .ok (.ishl, 1) := by decide +kernel
theorem dX5_explains_29 : decode cX5_explains 29 = .ok (.goto 4, 3) := by decide +kernel
theorem dX5_explains_32 : decode cX5_explains 32 = .ok (.iconst 0, 1) := by decide +kernel
theorem dX5_explains_33 : decode cX5_explains 33 = .ok (.ior, 1) := by decide +kernel
theorem dX5_explains_34 : decode cX5_explains 34 = .ok (.istore_n 2, 1) := by decide +kernel
theorem dX5_explains_35 : decode cX5_explains 35 = .ok (.iinc 3 1, 3) := by decide +kernel
theorem dX5_explains_38 : decode cX5_explains 38 = .ok (.goto (-32), 3) := by decide +kernel
theorem dX5_explains_41 : decode cX5_explains 41 = .ok (.iload_n 2, 1) := by decide +kernel
theorem dX5_explains_42 : decode cX5_explains 42 = .ok (.ireturn, 1) := by decide +kernel
theorem dX5_explained_0 : decode cX5_explained 0 = .ok (.iconst 0, 1) := by decide +kernel
theorem dX5_explained_1 : decode cX5_explained 1 = .ok (.istore_n 2, 1) := by decide +kernel
theorem dX5_explained_2 : decode cX5_explained 2 = .ok (.iconst 0, 1) := by decide +kernel
theorem dX5_explained_3 : decode cX5_explained 3 = .ok (.istore_n 3, 1) := by decide +kernel
theorem dX5_explained_4 : decode cX5_explained 4 = .ok (.iload_n 3, 1) := by decide +kernel
theorem dX5_explained_5 : decode cX5_explained 5 = .ok (.bipush 14, 2) := by decide +kernel
theorem dX5_explained_7 : decode cX5_explained 7 = .ok (.if_icmp .ge 64, 3) := by decide +kernel
theorem dX5_explained_10 : decode cX5_explained 10 = .ok (.iconst 0, 1) := by decide +kernel
theorem dX5_explained_11 : decode cX5_explained 11 = .ok (.istore 4, 2) := by decide +kernel
theorem dX5_explained_13 : decode cX5_explained 13 = .ok (.iload 4, 2) := by decide +kernel
theorem dX5_explained_15 : decode cX5_explained 15 = .ok (.bipush 14, 2) := by decide +kernel
theorem dX5_explained_17 : decode cX5_explained 17 = .ok (.if_icmp .ge 48, 3) := by decide +kernel
theorem dX5_explained_20 : decode cX5_explained 20 = .ok (.iload_n 2, 1) := by decide +kernel
theorem dX5_explained_21 : decode cX5_explained 21 = .ok (.iload_n 1, 1) := by decide +kernel
theorem dX5_explained_22 : decode cX5_explained 22 = .ok (.iload 4, 2) := by decide +kernel
theorem dX5_explained_24 : decode cX5_explained 24 = .ok (.invokestatic 47, 3) := by decide +kernel
theorem dX5_explained_27 : decode cX5_explained 27 = .ok (.ifCond .eq 29, 3) := by decide +kernel
theorem dX5_explained_30 : decode cX5_explained 30 = .ok (.iload_n 3, 1) := by decide +kernel
theorem dX5_explained_31 : decode cX5_explained 31 = .ok (.iload 4, 2) := by decide +kernel
theorem dX5_explained_33 : decode cX5_explained 33 = .ok (.if_icmp .eq 17, 3) := by decide +kernel
theorem dX5_explained_36 : decode cX5_explained 36 = .ok (.aload_n 0, 1) := by decide +kernel
theorem dX5_explained_37 : decode cX5_explained 37 = .ok (.getfield 13, 3) := by decide +kernel
theorem dX5_explained_40 : decode cX5_explained 40 = .ok (.iload_n 3, 1) := by decide +kernel
theorem dX5_explained_41 : decode cX5_explained 41 = .ok (.iaload, 1) := by decide +kernel
theorem dX5_explained_42 : decode cX5_explained 42 = .ok (.iload 4, 2) := by decide +kernel
theorem dX5_explained_44 : decode cX5_explained 44 = .ok (.invokestatic 47, 3) := by decide +kernel
theorem dX5_explained_47 : decode cX5_explained 47 = .ok (.ifCond .eq 9, 3) := by decide +kernel
theorem dX5_explained_50 : decode cX5_explained 50 = .ok (.iconst 1, 1) := by decide +kernel
theorem dX5_explained_51 : decode cX5_explained 51 = .ok (.iload_n 3, 1) := by decide +kernel
theorem dX5_explained_52 : decode cX5_explained 52 = .ok (.ishl, 1) := by decide +kernel
theorem dX5_explained_53 : decode cX5_explained 53 = .ok (.goto 4, 3) := by decide +kernel
theorem dX5_explained_56 : decode cX5_explained 56 = .ok (.iconst 0, 1) := by decide +kernel
theorem dX5_explained_57 : decode cX5_explained 57 = .ok (.ior, 1) := by decide +kernel
theorem dX5_explained_58 : decode cX5_explained 58 = .ok (.istore_n 2, 1) := by decide +kernel
theorem dX5_explained_59 : decode cX5_explained 59 = .ok (.iinc 4 1, 3) := by decide +kernel
theorem dX5_explained_62 : decode cX5_explained 62 = .ok (.goto (-49), 3) := by decide +kernel
theorem dX5_explained_65 : decode cX5_explained 65 = .ok (.iinc 3 1, 3) := by decide +kernel
theorem dX5_explained_68 : decode cX5_explained 68 = .ok (.goto (-64), 3) := by decide +kernel
theorem dX5_explained_71 : decode cX5_explained 71 = .ok (.iload_n 2, 1) := by decide +kernel
theorem dX5_explained_72 : decode cX5_explained 72 = .ok (.ireturn, 1) := by decide +kernel
theorem dX5_isBetter_0 : decode cX5_isBetter 0 = .ok (.iload_n 1, 1) := by decide +kernel
theorem dX5_isBetter_1 : decode cX5_isBetter 1 = .ok (.iload_n 2, 1) := by decide +kernel
theorem dX5_isBetter_2 : decode cX5_isBetter 2 = .ok (.ixor, 1) := by decide +kernel
theorem dX5_isBetter_3 : decode cX5_isBetter 3 = .ok (.istore_n 3, 1) := by decide +kernel
theorem dX5_isBetter_4 : decode cX5_isBetter 4 = .ok (.iload_n 3, 1) := by decide +kernel
theorem dX5_isBetter_5 : decode cX5_isBetter 5 = .ok (.iload_n 3, 1) := by decide +kernel
theorem dX5_isBetter_6 : decode cX5_isBetter 6 = .ok (.ineg, 1) := by decide +kernel
theorem dX5_isBetter_7 : decode cX5_isBetter 7 = .ok (.iand, 1) := by decide +kernel
theorem dX5_isBetter_8 : decode cX5_isBetter 8 = .ok (.istore 4, 2) := by decide +kernel
theorem dX5_isBetter_10 : decode cX5_isBetter 10 = .ok (.iload_n 1, 1) := by decide +kernel
theorem dX5_isBetter_11 : decode cX5_isBetter 11 = .ok (.invokestatic 82, 3) := by decide +kernel
theorem dX5_isBetter_14 : decode cX5_isBetter 14 = .ok (.iload_n 2, 1) := by decide +kernel
theorem dX5_isBetter_15 : decode cX5_isBetter 15 = .ok (.invokestatic 82, 3) := by decide +kernel
theorem dX5_isBetter_18 : decode cX5_isBetter 18 = .ok (.if_icmp .eq 20, 3) := by decide +kernel
theorem dX5_isBetter_21 : decode cX5_isBetter 21 = .ok (.iload_n 1, 1) := by decide +kernel
theorem dX5_isBetter_22 : decode cX5_isBetter 22 = .ok (.invokestatic 82, 3) := by decide +kernel
theorem dX5_isBetter_25 : decode cX5_isBetter 25 = .ok (.iload_n 2, 1) := by decide +kernel
theorem dX5_isBetter_26 : decode cX5_isBetter 26 = .ok (.invokestatic 82, 3) := by decide +kernel
theorem dX5_isBetter_29 : decode cX5_isBetter 29 = .ok (.if_icmp .ge 7, 3) := by decide +kernel
theorem dX5_isBetter_32 : decode cX5_isBetter 32 = .ok (.iconst 1, 1) := by decide +kernel
theorem dX5_isBetter_33 : decode cX5_isBetter 33 = .ok (.goto 4, 3) := by decide +kernel
theorem dX5_isBetter_36 : decode cX5_isBetter 36 = .ok (.iconst 0, 1) := by decide +kernel
theorem dX5_isBetter_37 : decode cX5_isBetter 37 = .ok (.ireturn, 1) := by decide +kernel
theorem dX5_isBetter_38 : decode cX5_isBetter 38 = .ok (.iload_n 1, 1) := by decide +kernel
theorem dX5_isBetter_39 : decode cX5_isBetter 39 = .ok (.aload_n 0, 1) := by decide +kernel
theorem dX5_isBetter_40 : decode cX5_isBetter 40 = .ok (.getfield 68, 3) := by decide +kernel
theorem dX5_isBetter_43 : decode cX5_isBetter 43 = .ok (.iand, 1) := by decide +kernel
theorem dX5_isBetter_44 : decode cX5_isBetter 44 = .ok (.invokestatic 82, 3) := by decide +kernel
theorem dX5_isBetter_47 : decode cX5_isBetter 47 = .ok (.iload_n 2, 1) := by decide +kernel
theorem dX5_isBetter_48 : decode cX5_isBetter 48 = .ok (.aload_n 0, 1) := by decide +kernel
theorem dX5_isBetter_49 : decode cX5_isBetter 49 = .ok (.getfield 68, 3) := by decide +kernel
theorem dX5_isBetter_52 : decode cX5_isBetter 52 = .ok (.iand, 1) := by decide +kernel
theorem dX5_isBetter_53 : decode cX5_isBetter 53 = .ok (.invokestatic 82, 3) := by decide +kernel
theorem dX5_isBetter_56 : decode cX5_isBetter 56 = .ok (.if_icmp .eq 32, 3) := by decide +kernel
theorem dX5_isBetter_59 : decode cX5_isBetter 59 = .ok (.iload_n 1, 1) := by decide +kernel
theorem dX5_isBetter_60 : decode cX5_isBetter 60 = .ok (.aload_n 0, 1) := by decide +kernel
theorem dX5_isBetter_61 : decode cX5_isBetter 61 = .ok (.getfield 68, 3) := by decide +kernel
theorem dX5_isBetter_64 : decode cX5_isBetter 64 = .ok (.iand, 1) := by decide +kernel
theorem dX5_isBetter_65 : decode cX5_isBetter 65 = .ok (.invokestatic 82, 3) := by decide +kernel
theorem dX5_isBetter_68 : decode cX5_isBetter 68 = .ok (.iload_n 2, 1) := by decide +kernel
theorem dX5_isBetter_69 : decode cX5_isBetter 69 = .ok (.aload_n 0, 1) := by decide +kernel
theorem dX5_isBetter_70 : decode cX5_isBetter 70 = .ok (.getfield 68, 3) := by decide +kernel
theorem dX5_isBetter_73 : decode cX5_isBetter 73 = .ok (.iand, 1) := by decide +kernel
theorem dX5_isBetter_74 : decode cX5_isBetter 74 = .ok (.invokestatic 82, 3) := by decide +kernel
theorem dX5_isBetter_77 : decode cX5_isBetter 77 = .ok (.if_icmp .le 7, 3) := by decide +kernel
theorem dX5_isBetter_80 : decode cX5_isBetter 80 = .ok (.iconst 1, 1) := by decide +kernel
theorem dX5_isBetter_81 : decode cX5_isBetter 81 = .ok (.goto 19, 3) := by decide +kernel
theorem dX5_isBetter_84 : decode cX5_isBetter 84 = .ok (.iconst 0, 1) := by decide +kernel
theorem dX5_isBetter_85 : decode cX5_isBetter 85 = .ok (.goto 15, 3) := by decide +kernel
theorem dX5_isBetter_88 : decode cX5_isBetter 88 = .ok (.iload_n 1, 1) := by decide +kernel
theorem dX5_isBetter_89 : decode cX5_isBetter 89 = .ok (.iload 4, 2) := by decide +kernel
theorem dX5_isBetter_91 : decode cX5_isBetter 91 = .ok (.iand, 1) := by decide +kernel
theorem dX5_isBetter_92 : decode cX5_isBetter 92 = .ok (.ifCond .eq 7, 3) := by decide +kernel
theorem dX5_isBetter_95 : decode cX5_isBetter 95 = .ok (.iconst 1, 1) := by decide +kernel
theorem dX5_isBetter_96 : decode cX5_isBetter 96 = .ok (.goto 4, 3) := by decide +kernel
theorem dX5_isBetter_99 : decode cX5_isBetter 99 = .ok (.iconst 0, 1) := by decide +kernel
theorem dX5_isBetter_100 : decode cX5_isBetter 100 = .ok (.ireturn, 1) := by decide +kernel
theorem dX5_best_0 : decode cX5_best 0 = .ok (.iconst 0, 1) := by decide +kernel
theorem dX5_best_1 : decode cX5_best 1 = .ok (.istore_n 1, 1) := by decide +kernel
theorem dX5_best_2 : decode cX5_best 2 = .ok (.iconst 0, 1) := by decide +kernel
theorem dX5_best_3 : decode cX5_best 3 = .ok (.istore_n 2, 1) := by decide +kernel
theorem dX5_best_4 : decode cX5_best 4 = .ok (.iload_n 2, 1) := by decide +kernel
theorem dX5_best_5 : decode cX5_best 5 = .ok (.bipush 14, 2) := by decide +kernel
theorem dX5_best_7 : decode cX5_best 7 = .ok (.if_icmp .ge 27, 3) := by decide +kernel
theorem dX5_best_10 : decode cX5_best 10 = .ok (.iload_n 1, 1) := by decide +kernel
theorem dX5_best_11 : decode cX5_best 11 = .ok (.aload_n 0, 1) := by decide +kernel
theorem dX5_best_12 : decode cX5_best 12 = .ok (.iload_n 2, 1) := by decide +kernel
theorem dX5_best_13 : decode cX5_best 13 = .ok (.invokevirtual 98, 3) := by decide +kernel
theorem dX5_best_16 : decode cX5_best 16 = .ok (.ifCond .eq 9, 3) := by decide +kernel
theorem dX5_best_19 : decode cX5_best 19 = .ok (.iconst 1, 1) := by decide +kernel
theorem dX5_best_20 : decode cX5_best 20 = .ok (.iload_n 2, 1) := by decide +kernel
theorem dX5_best_21 : decode cX5_best 21 = .ok (.ishl, 1) := by decide +kernel
theorem dX5_best_22 : decode cX5_best 22 = .ok (.goto 4, 3) := by decide +kernel
theorem dX5_best_25 : decode cX5_best 25 = .ok (.iconst 0, 1) := by decide +kernel
theorem dX5_best_26 : decode cX5_best 26 = .ok (.ior, 1) := by decide +kernel
theorem dX5_best_27 : decode cX5_best 27 = .ok (.istore_n 1, 1) := by decide +kernel
theorem dX5_best_28 : decode cX5_best 28 = .ok (.iinc 2 1, 3) := by decide +kernel
theorem dX5_best_31 : decode cX5_best 31 = .ok (.goto (-27), 3) := by decide +kernel
theorem dX5_best_34 : decode cX5_best 34 = .ok (.aload_n 0, 1) := by decide +kernel
theorem dX5_best_35 : decode cX5_best 35 = .ok (.getfield 68, 3) := by decide +kernel
theorem dX5_best_38 : decode cX5_best 38 = .ok (.istore_n 2, 1) := by decide +kernel
theorem dX5_best_39 : decode cX5_best 39 = .ok (.iload_n 1, 1) := by decide +kernel
theorem dX5_best_40 : decode cX5_best 40 = .ok (.istore_n 3, 1) := by decide +kernel
theorem dX5_best_41 : decode cX5_best 41 = .ok (.iload_n 3, 1) := by decide +kernel
theorem dX5_best_42 : decode cX5_best 42 = .ok (.ifCond .le 45, 3) := by decide +kernel
theorem dX5_best_45 : decode cX5_best 45 = .ok (.iload_n 3, 1) := by decide +kernel
theorem dX5_best_46 : decode cX5_best 46 = .ok (.iload_n 2, 1) := by decide +kernel
theorem dX5_best_47 : decode cX5_best 47 = .ok (.if_icmp .eq 31, 3) := by decide +kernel
theorem dX5_best_50 : decode cX5_best 50 = .ok (.aload_n 0, 1) := by decide +kernel
theorem dX5_best_51 : decode cX5_best 51 = .ok (.iload_n 3, 1) := by decide +kernel
theorem dX5_best_52 : decode cX5_best 52 = .ok (.iload_n 2, 1) := by decide +kernel
theorem dX5_best_53 : decode cX5_best 53 = .ok (.invokevirtual 101, 3) := by decide +kernel
theorem dX5_best_56 : decode cX5_best 56 = .ok (.ifCond .eq 22, 3) := by decide +kernel
theorem dX5_best_59 : decode cX5_best 59 = .ok (.aload_n 0, 1) := by decide +kernel
theorem dX5_best_60 : decode cX5_best 60 = .ok (.iload_n 3, 1) := by decide +kernel
theorem dX5_best_61 : decode cX5_best 61 = .ok (.invokevirtual 104, 3) := by decide +kernel
theorem dX5_best_64 : decode cX5_best 64 = .ok (.aload_n 0, 1) := by decide +kernel
theorem dX5_best_65 : decode cX5_best 65 = .ok (.getfield 68, 3) := by decide +kernel
theorem dX5_best_68 : decode cX5_best 68 = .ok (.iand, 1) := by decide +kernel
theorem dX5_best_69 : decode cX5_best 69 = .ok (.aload_n 0, 1) := by decide +kernel
theorem dX5_best_70 : decode cX5_best 70 = .ok (.getfield 68, 3) := by decide +kernel
theorem dX5_best_73 : decode cX5_best 73 = .ok (.if_icmp .ne 5, 3) := by decide +kernel
theorem dX5_best_76 : decode cX5_best 76 = .ok (.iload_n 3, 1) := by decide +kernel
theorem dX5_best_77 : decode cX5_best 77 = .ok (.istore_n 2, 1) := by decide +kernel
theorem dX5_best_78 : decode cX5_best 78 = .ok (.iload_n 3, 1) := by decide +kernel
theorem dX5_best_79 : decode cX5_best 79 = .ok (.iconst 1, 1) := by decide +kernel
theorem dX5_best_80 : decode cX5_best 80 = .ok (.isub, 1) := by decide +kernel
theorem dX5_best_81 : decode cX5_best 81 = .ok (.iload_n 1, 1) := by decide +kernel
theorem dX5_best_82 : decode cX5_best 82 = .ok (.iand, 1) := by decide +kernel
theorem dX5_best_83 : decode cX5_best 83 = .ok (.istore_n 3, 1) := by decide +kernel
theorem dX5_best_84 : decode cX5_best 84 = .ok (.goto (-43), 3) := by decide +kernel
theorem dX5_best_87 : decode cX5_best 87 = .ok (.aload_n 0, 1) := by decide +kernel
theorem dX5_best_88 : decode cX5_best 88 = .ok (.getfield 68, 3) := by decide +kernel
theorem dX5_best_91 : decode cX5_best 91 = .ok (.ifCond .ne 7, 3) := by decide +kernel
theorem dX5_best_94 : decode cX5_best 94 = .ok (.iconst 0, 1) := by decide +kernel
theorem dX5_best_95 : decode cX5_best 95 = .ok (.goto 4, 3) := by decide +kernel
theorem dX5_best_98 : decode cX5_best 98 = .ok (.iload_n 2, 1) := by decide +kernel
theorem dX5_best_99 : decode cX5_best 99 = .ok (.ireturn, 1) := by decide +kernel
theorem dX5_causes_0 : decode cX5_causes 0 = .ok (.aload_n 0, 1) := by decide +kernel
theorem dX5_causes_1 : decode cX5_causes 1 = .ok (.iconst 0, 1) := by decide +kernel
theorem dX5_causes_2 : decode cX5_causes 2 = .ok (.putfield 43, 3) := by decide +kernel
theorem dX5_causes_5 : decode cX5_causes 5 = .ok (.aload_n 0, 1) := by decide +kernel
theorem dX5_causes_6 : decode cX5_causes 6 = .ok (.invokevirtual 107, 3) := by decide +kernel
theorem dX5_causes_9 : decode cX5_causes 9 = .ok (.invokestatic 82, 3) := by decide +kernel
theorem dX5_causes_12 : decode cX5_causes 12 = .ok (.ireturn, 1) := by decide +kernel
theorem dX5_cause_0 : decode cX5_cause 0 = .ok (.aload_n 0, 1) := by decide +kernel
theorem dX5_cause_1 : decode cX5_cause 1 = .ok (.invokevirtual 107, 3) := by decide +kernel
theorem dX5_cause_4 : decode cX5_cause 4 = .ok (.istore_n 2, 1) := by decide +kernel
theorem dX5_cause_5 : decode cX5_cause 5 = .ok (.aload_n 0, 1) := by decide +kernel
theorem dX5_cause_6 : decode cX5_cause 6 = .ok (.iload_n 1, 1) := by decide +kernel
theorem dX5_cause_7 : decode cX5_cause 7 = .ok (.ifCond .lt 15, 3) := by decide +kernel
theorem dX5_cause_10 : decode cX5_cause 10 = .ok (.iload_n 1, 1) := by decide +kernel
theorem dX5_cause_11 : decode cX5_cause 11 = .ok (.iload_n 2, 1) := by decide +kernel
theorem dX5_cause_12 : decode cX5_cause 12 = .ok (.invokestatic 82, 3) := by decide +kernel
theorem dX5_cause_15 : decode cX5_cause 15 = .ok (.if_icmp .ge 7, 3) := by decide +kernel
theorem dX5_cause_18 : decode cX5_cause 18 = .ok (.iconst 1, 1) := by decide +kernel
theorem dX5_cause_19 : decode cX5_cause 19 = .ok (.goto 4, 3) := by decide +kernel
theorem dX5_cause_22 : decode cX5_cause 22 = .ok (.iconst 0, 1) := by decide +kernel
theorem dX5_cause_23 : decode cX5_cause 23 = .ok (.iconst 1, 1) := by decide +kernel
theorem dX5_cause_24 : decode cX5_cause 24 = .ok (.invokevirtual 55, 3) := by decide +kernel
theorem dX5_cause_27 : decode cX5_cause 27 = .ok (.ifCond .eq 11, 3) := by decide +kernel
theorem dX5_cause_30 : decode cX5_cause 30 = .ok (.iload_n 2, 1) := by decide +kernel
theorem dX5_cause_31 : decode cX5_cause 31 = .ok (.iload_n 1, 1) := by decide +kernel
theorem dX5_cause_32 : decode cX5_cause 32 = .ok (.invokestatic 111, 3) := by decide +kernel
theorem dX5_cause_35 : decode cX5_cause 35 = .ok (.goto 4, 3) := by decide +kernel
theorem dX5_cause_38 : decode cX5_cause 38 = .ok (.iconst 0, 1) := by decide +kernel
theorem dX5_cause_39 : decode cX5_cause 39 = .ok (.ireturn, 1) := by decide +kernel
theorem dX5_causeByTrying_0 : decode cX5_causeByTrying 0 = .ok (.aload_n 0, 1) := by decide +kernel
theorem dX5_causeByTrying_1 : decode cX5_causeByTrying 1 = .ok (.iload_n 1, 1) := by decide +kernel
theorem dX5_causeByTrying_2 : decode cX5_causeByTrying 2 = .ok (.invokevirtual 114, 3) := by decide +kernel
theorem dX5_causeByTrying_5 : decode cX5_causeByTrying 5 = .ok (.ireturn, 1) := by decide +kernel
theorem dX5_joins_0 : decode cX5_joins 0 = .ok (.iconst (-1), 1) := by decide +kernel
theorem dX5_joins_1 : decode cX5_joins 1 = .ok (.istore_n 2, 1) := by decide +kernel
theorem dX5_joins_2 : decode cX5_joins 2 = .ok (.iconst 0, 1) := by decide +kernel
theorem dX5_joins_3 : decode cX5_joins 3 = .ok (.istore_n 3, 1) := by decide +kernel
theorem dX5_joins_4 : decode cX5_joins 4 = .ok (.iconst 0, 1) := by decide +kernel
theorem dX5_joins_5 : decode cX5_joins 5 = .ok (.istore 4, 2) := by decide +kernel
theorem dX5_joins_7 : decode cX5_joins 7 = .ok (.iload 4, 2) := by decide +kernel
theorem dX5_joins_9 : decode cX5_joins 9 = .ok (.bipush 14, 2) := by decide +kernel
theorem dX5_joins_11 : decode cX5_joins 11 = .ok (.if_icmp .ge 106, 3) := by decide +kernel
theorem dX5_joins_14 : decode cX5_joins 14 = .ok (.aload_n 0, 1) := by decide +kernel
theorem dX5_joins_15 : decode cX5_joins 15 = .ok (.iload 4, 2) := by decide +kernel
theorem dX5_joins_17 : decode cX5_joins 17 = .ok (.invokevirtual 98, 3) := by decide +kernel
theorem dX5_joins_20 : decode cX5_joins 20 = .ok (.ifCond .eq 17, 3) := by decide +kernel
theorem dX5_joins_23 : decode cX5_joins 23 = .ok (.aload_n 0, 1) := by decide +kernel
theorem dX5_joins_24 : decode cX5_joins 24 = .ok (.iload 4, 2) := by decide +kernel
theorem dX5_joins_26 : decode cX5_joins 26 = .ok (.invokevirtual 117, 3) := by decide +kernel
theorem dX5_joins_29 : decode cX5_joins 29 = .ok (.iload_n 1, 1) := by decide +kernel
theorem dX5_joins_30 : decode cX5_joins 30 = .ok (.iand, 1) := by decide +kernel
theorem dX5_joins_31 : decode cX5_joins 31 = .ok (.invokestatic 82, 3) := by decide +kernel
theorem dX5_joins_34 : decode cX5_joins 34 = .ok (.goto 4, 3) := by decide +kernel
theorem dX5_joins_37 : decode cX5_joins 37 = .ok (.iconst 0, 1) := by decide +kernel
theorem dX5_joins_38 : decode cX5_joins 38 = .ok (.istore 5, 2) := by decide +kernel
theorem dX5_joins_40 : decode cX5_joins 40 = .ok (.iload 5, 2) := by decide +kernel
theorem dX5_joins_42 : decode cX5_joins 42 = .ok (.iload_n 3, 1) := by decide +kernel
theorem dX5_joins_43 : decode cX5_joins 43 = .ok (.if_icmp .gt 37, 3) := by decide +kernel
theorem dX5_joins_46 : decode cX5_joins 46 = .ok (.iload 5, 2) := by decide +kernel
theorem dX5_joins_48 : decode cX5_joins 48 = .ok (.iload_n 3, 1) := by decide +kernel
theorem dX5_joins_49 : decode cX5_joins 49 = .ok (.if_icmp .ne 35, 3) := by decide +kernel
theorem dX5_joins_52 : decode cX5_joins 52 = .ok (.iload 5, 2) := by decide +kernel
theorem dX5_joins_54 : decode cX5_joins 54 = .ok (.ifCond .le 30, 3) := by decide +kernel
theorem dX5_joins_57 : decode cX5_joins 57 = .ok (.aload_n 0, 1) := by decide +kernel
theorem dX5_joins_58 : decode cX5_joins 58 = .ok (.getfield 68, 3) := by decide +kernel
theorem dX5_joins_61 : decode cX5_joins 61 = .ok (.iload 4, 2) := by decide +kernel
theorem dX5_joins_63 : decode cX5_joins 63 = .ok (.invokestatic 47, 3) := by decide +kernel
theorem dX5_joins_66 : decode cX5_joins 66 = .ok (.ifCond .eq 18, 3) := by decide +kernel
theorem dX5_joins_69 : decode cX5_joins 69 = .ok (.aload_n 0, 1) := by decide +kernel
theorem dX5_joins_70 : decode cX5_joins 70 = .ok (.getfield 68, 3) := by decide +kernel
theorem dX5_joins_73 : decode cX5_joins 73 = .ok (.iload_n 2, 1) := by decide +kernel
theorem dX5_joins_74 : decode cX5_joins 74 = .ok (.invokestatic 47, 3) := by decide +kernel
theorem dX5_joins_77 : decode cX5_joins 77 = .ok (.ifCond .ne 7, 3) := by decide +kernel
theorem dX5_joins_80 : decode cX5_joins 80 = .ok (.iconst 1, 1) := by decide +kernel
theorem dX5_joins_81 : decode cX5_joins 81 = .ok (.goto 4, 3) := by decide +kernel
theorem dX5_joins_84 : decode cX5_joins 84 = .ok (.iconst 0, 1) := by decide +kernel
theorem dX5_joins_85 : decode cX5_joins 85 = .ok (.istore 6, 2) := by decide +kernel
theorem dX5_joins_87 : decode cX5_joins 87 = .ok (.iload 6, 2) := by decide +kernel
theorem dX5_joins_89 : decode cX5_joins 89 = .ok (.ifCond .eq 8, 3) := by decide +kernel
theorem dX5_joins_92 : decode cX5_joins 92 = .ok (.iload 4, 2) := by decide +kernel
theorem dX5_joins_94 : decode cX5_joins 94 = .ok (.goto 4, 3) := by decide +kernel
theorem dX5_joins_97 : decode cX5_joins 97 = .ok (.iload_n 2, 1) := by decide +kernel
theorem dX5_joins_98 : decode cX5_joins 98 = .ok (.istore_n 2, 1) := by decide +kernel
theorem dX5_joins_99 : decode cX5_joins 99 = .ok (.iload 6, 2) := by decide +kernel
theorem dX5_joins_101 : decode cX5_joins 101 = .ok (.ifCond .eq 8, 3) := by decide +kernel
theorem dX5_joins_104 : decode cX5_joins 104 = .ok (.iload 5, 2) := by decide +kernel
theorem dX5_joins_106 : decode cX5_joins 106 = .ok (.goto 4, 3) := by decide +kernel
theorem dX5_joins_109 : decode cX5_joins 109 = .ok (.iload_n 3, 1) := by decide +kernel
theorem dX5_joins_110 : decode cX5_joins 110 = .ok (.istore_n 3, 1) := by decide +kernel
theorem dX5_joins_111 : decode cX5_joins 111 = .ok (.iinc 4 1, 3) := by decide +kernel
theorem dX5_joins_114 : decode cX5_joins 114 = .ok (.goto (-107), 3) := by decide +kernel
theorem dX5_joins_117 : decode cX5_joins 117 = .ok (.iload_n 2, 1) := by decide +kernel
theorem dX5_joins_118 : decode cX5_joins 118 = .ok (.ireturn, 1) := by decide +kernel
theorem dX5_greedyCauses_0 : decode cX5_greedyCauses 0 = .ok (.aload_n 0, 1) := by decide +kernel
theorem dX5_greedyCauses_1 : decode cX5_greedyCauses 1 = .ok (.iconst 0, 1) := by decide +kernel
theorem dX5_greedyCauses_2 : decode cX5_greedyCauses 2 = .ok (.putfield 43, 3) := by decide +kernel
theorem dX5_greedyCauses_5 : decode cX5_greedyCauses 5 = .ok (.aload_n 0, 1) := by decide +kernel
theorem dX5_greedyCauses_6 : decode cX5_greedyCauses 6 = .ok (.getfield 68, 3) := by decide +kernel
theorem dX5_greedyCauses_9 : decode cX5_greedyCauses 9 = .ok (.istore_n 1, 1) := by decide +kernel
theorem dX5_greedyCauses_10 : decode cX5_greedyCauses 10 = .ok (.iconst 0, 1) := by decide +kernel
theorem dX5_greedyCauses_11 : decode cX5_greedyCauses 11 = .ok (.istore_n 2, 1) := by decide +kernel
theorem dX5_greedyCauses_12 : decode cX5_greedyCauses 12 = .ok (.iload_n 1, 1) := by decide +kernel
theorem dX5_greedyCauses_13 : decode cX5_greedyCauses 13 = .ok (.ifCond .eq 23, 3) := by decide +kernel
theorem dX5_greedyCauses_16 : decode cX5_greedyCauses 16 = .ok (.iload_n 1, 1) := by decide +kernel
theorem dX5_greedyCauses_17 : decode cX5_greedyCauses 17 = .ok (.aload_n 0, 1) := by decide +kernel
theorem dX5_greedyCauses_18 : decode cX5_greedyCauses 18 = .ok (.aload_n 0, 1) := by decide +kernel
theorem dX5_greedyCauses_19 : decode cX5_greedyCauses 19 = .ok (.iload_n 1, 1) := by decide +kernel
theorem dX5_greedyCauses_20 : decode cX5_greedyCauses 20 = .ok (.invokevirtual 120, 3) := by decide +kernel
theorem dX5_greedyCauses_23 : decode cX5_greedyCauses 23 = .ok (.invokevirtual 117, 3) := by decide +kernel
theorem dX5_greedyCauses_26 : decode cX5_greedyCauses 26 = .ok (.iconst (-1), 1) := by decide +kernel
theorem dX5_greedyCauses_27 : decode cX5_greedyCauses 27 = .ok (.ixor, 1) := by decide +kernel
theorem dX5_greedyCauses_28 : decode cX5_greedyCauses 28 = .ok (.iand, 1) := by decide +kernel
theorem dX5_greedyCauses_29 : decode cX5_greedyCauses 29 = .ok (.istore_n 1, 1) := by decide +kernel
theorem dX5_greedyCauses_30 : decode cX5_greedyCauses 30 = .ok (.iinc 2 1, 3) := by decide +kernel
theorem dX5_greedyCauses_33 : decode cX5_greedyCauses 33 = .ok (.goto (-21), 3) := by decide +kernel
theorem dX5_greedyCauses_36 : decode cX5_greedyCauses 36 = .ok (.iload_n 2, 1) := by decide +kernel
theorem dX5_greedyCauses_37 : decode cX5_greedyCauses 37 = .ok (.ireturn, 1) := by decide +kernel
theorem dX5_greedyCause_0 : decode cX5_greedyCause 0 = .ok (.aload_n 0, 1) := by decide +kernel
theorem dX5_greedyCause_1 : decode cX5_greedyCause 1 = .ok (.getfield 68, 3) := by decide +kernel
theorem dX5_greedyCause_4 : decode cX5_greedyCause 4 = .ok (.istore_n 2, 1) := by decide +kernel
theorem dX5_greedyCause_5 : decode cX5_greedyCause 5 = .ok (.iconst (-1), 1) := by decide +kernel
theorem dX5_greedyCause_6 : decode cX5_greedyCause 6 = .ok (.istore_n 3, 1) := by decide +kernel
theorem dX5_greedyCause_7 : decode cX5_greedyCause 7 = .ok (.iconst 0, 1) := by decide +kernel
theorem dX5_greedyCause_8 : decode cX5_greedyCause 8 = .ok (.istore 4, 2) := by decide +kernel
theorem dX5_greedyCause_10 : decode cX5_greedyCause 10 = .ok (.iload 4, 2) := by decide +kernel
theorem dX5_greedyCause_12 : decode cX5_greedyCause 12 = .ok (.iload_n 1, 1) := by decide +kernel
theorem dX5_greedyCause_13 : decode cX5_greedyCause 13 = .ok (.if_icmp .gt 47, 3) := by decide +kernel
theorem dX5_greedyCause_16 : decode cX5_greedyCause 16 = .ok (.iload_n 1, 1) := by decide +kernel
theorem dX5_greedyCause_17 : decode cX5_greedyCause 17 = .ok (.bipush 14, 2) := by decide +kernel
theorem dX5_greedyCause_19 : decode cX5_greedyCause 19 = .ok (.if_icmp .ge 41, 3) := by decide +kernel
theorem dX5_greedyCause_22 : decode cX5_greedyCause 22 = .ok (.iload_n 2, 1) := by decide +kernel
theorem dX5_greedyCause_23 : decode cX5_greedyCause 23 = .ok (.ifCond .ne 7, 3) := by decide +kernel
theorem dX5_greedyCause_26 : decode cX5_greedyCause 26 = .ok (.iconst (-1), 1) := by decide +kernel
theorem dX5_greedyCause_27 : decode cX5_greedyCause 27 = .ok (.goto 8, 3) := by decide +kernel
theorem dX5_greedyCause_30 : decode cX5_greedyCause 30 = .ok (.aload_n 0, 1) := by decide +kernel
theorem dX5_greedyCause_31 : decode cX5_greedyCause 31 = .ok (.iload_n 2, 1) := by decide +kernel
theorem dX5_greedyCause_32 : decode cX5_greedyCause 32 = .ok (.invokevirtual 120, 3) := by decide +kernel
theorem dX5_greedyCause_35 : decode cX5_greedyCause 35 = .ok (.istore_n 3, 1) := by decide +kernel
theorem dX5_greedyCause_36 : decode cX5_greedyCause 36 = .ok (.iload_n 2, 1) := by decide +kernel
theorem dX5_greedyCause_37 : decode cX5_greedyCause 37 = .ok (.iload_n 3, 1) := by decide +kernel
theorem dX5_greedyCause_38 : decode cX5_greedyCause 38 = .ok (.ifCond .ge 7, 3) := by decide +kernel
theorem dX5_greedyCause_41 : decode cX5_greedyCause 41 = .ok (.iconst 0, 1) := by decide +kernel
theorem dX5_greedyCause_42 : decode cX5_greedyCause 42 = .ok (.goto 10, 3) := by decide +kernel
theorem dX5_greedyCause_45 : decode cX5_greedyCause 45 = .ok (.aload_n 0, 1) := by decide +kernel
theorem dX5_greedyCause_46 : decode cX5_greedyCause 46 = .ok (.iload_n 3, 1) := by decide +kernel
theorem dX5_greedyCause_47 : decode cX5_greedyCause 47 = .ok (.invokevirtual 117, 3) := by decide +kernel
theorem dX5_greedyCause_50 : decode cX5_greedyCause 50 = .ok (.iconst (-1), 1) := by decide +kernel
theorem dX5_greedyCause_51 : decode cX5_greedyCause 51 = .ok (.ixor, 1) := by decide +kernel
theorem dX5_greedyCause_52 : decode cX5_greedyCause 52 = .ok (.iand, 1) := by decide +kernel
theorem dX5_greedyCause_53 : decode cX5_greedyCause 53 = .ok (.istore_n 2, 1) := by decide +kernel
theorem dX5_greedyCause_54 : decode cX5_greedyCause 54 = .ok (.iinc 4 1, 3) := by decide +kernel
theorem dX5_greedyCause_57 : decode cX5_greedyCause 57 = .ok (.goto (-47), 3) := by decide +kernel
theorem dX5_greedyCause_60 : decode cX5_greedyCause 60 = .ok (.aload_n 0, 1) := by decide +kernel
theorem dX5_greedyCause_61 : decode cX5_greedyCause 61 = .ok (.iload_n 1, 1) := by decide +kernel
theorem dX5_greedyCause_62 : decode cX5_greedyCause 62 = .ok (.ifCond .lt 11, 3) := by decide +kernel
theorem dX5_greedyCause_65 : decode cX5_greedyCause 65 = .ok (.iload_n 3, 1) := by decide +kernel
theorem dX5_greedyCause_66 : decode cX5_greedyCause 66 = .ok (.ifCond .lt 7, 3) := by decide +kernel
theorem dX5_greedyCause_69 : decode cX5_greedyCause 69 = .ok (.iconst 1, 1) := by decide +kernel
theorem dX5_greedyCause_70 : decode cX5_greedyCause 70 = .ok (.goto 4, 3) := by decide +kernel
theorem dX5_greedyCause_73 : decode cX5_greedyCause 73 = .ok (.iconst 0, 1) := by decide +kernel
theorem dX5_greedyCause_74 : decode cX5_greedyCause 74 = .ok (.iconst 1, 1) := by decide +kernel
theorem dX5_greedyCause_75 : decode cX5_greedyCause 75 = .ok (.invokevirtual 55, 3) := by decide +kernel
theorem dX5_greedyCause_78 : decode cX5_greedyCause 78 = .ok (.ifCond .eq 7, 3) := by decide +kernel
theorem dX5_greedyCause_81 : decode cX5_greedyCause 81 = .ok (.iload_n 3, 1) := by decide +kernel
theorem dX5_greedyCause_82 : decode cX5_greedyCause 82 = .ok (.goto 4, 3) := by decide +kernel
theorem dX5_greedyCause_85 : decode cX5_greedyCause 85 = .ok (.iconst 0, 1) := by decide +kernel
theorem dX5_greedyCause_86 : decode cX5_greedyCause 86 = .ok (.ireturn, 1) := by decide +kernel
theorem dX5_causeOf_0 : decode cX5_causeOf 0 = .ok (.aload_n 0, 1) := by decide +kernel
theorem dX5_causeOf_1 : decode cX5_causeOf 1 = .ok (.iload_n 1, 1) := by decide +kernel
theorem dX5_causeOf_2 : decode cX5_causeOf 2 = .ok (.invokestatic 51, 3) := by decide +kernel
theorem dX5_causeOf_5 : decode cX5_causeOf 5 = .ok (.iconst 1, 1) := by decide +kernel
theorem dX5_causeOf_6 : decode cX5_causeOf 6 = .ok (.invokevirtual 55, 3) := by decide +kernel
theorem dX5_causeOf_9 : decode cX5_causeOf 9 = .ok (.ifCond .ne 5, 3) := by decide +kernel
theorem dX5_causeOf_12 : decode cX5_causeOf 12 = .ok (.iconst 0, 1) := by decide +kernel
theorem dX5_causeOf_13 : decode cX5_causeOf 13 = .ok (.ireturn, 1) := by decide +kernel
theorem dX5_causeOf_14 : decode cX5_causeOf 14 = .ok (.aload_n 0, 1) := by decide +kernel
theorem dX5_causeOf_15 : decode cX5_causeOf 15 = .ok (.invokevirtual 107, 3) := by decide +kernel
theorem dX5_causeOf_18 : decode cX5_causeOf 18 = .ok (.istore_n 2, 1) := by decide +kernel
theorem dX5_causeOf_19 : decode cX5_causeOf 19 = .ok (.iconst (-1), 1) := by decide +kernel
theorem dX5_causeOf_20 : decode cX5_causeOf 20 = .ok (.istore_n 3, 1) := by decide +kernel
theorem dX5_causeOf_21 : decode cX5_causeOf 21 = .ok (.bipush 13, 2) := by decide +kernel
theorem dX5_causeOf_23 : decode cX5_causeOf 23 = .ok (.istore 4, 2) := by decide +kernel
theorem dX5_causeOf_25 : decode cX5_causeOf 25 = .ok (.iload 4, 2) := by decide +kernel
theorem dX5_causeOf_27 : decode cX5_causeOf 27 = .ok (.ifCond .lt 38, 3) := by decide +kernel
theorem dX5_causeOf_30 : decode cX5_causeOf 30 = .ok (.iload_n 2, 1) := by decide +kernel
theorem dX5_causeOf_31 : decode cX5_causeOf 31 = .ok (.iload 4, 2) := by decide +kernel
theorem dX5_causeOf_33 : decode cX5_causeOf 33 = .ok (.invokestatic 47, 3) := by decide +kernel
theorem dX5_causeOf_36 : decode cX5_causeOf 36 = .ok (.ifCond .eq 21, 3) := by decide +kernel
theorem dX5_causeOf_39 : decode cX5_causeOf 39 = .ok (.aload_n 0, 1) := by decide +kernel
theorem dX5_causeOf_40 : decode cX5_causeOf 40 = .ok (.iload 4, 2) := by decide +kernel
theorem dX5_causeOf_42 : decode cX5_causeOf 42 = .ok (.invokevirtual 117, 3) := by decide +kernel
theorem dX5_causeOf_45 : decode cX5_causeOf 45 = .ok (.iload_n 1, 1) := by decide +kernel
theorem dX5_causeOf_46 : decode cX5_causeOf 46 = .ok (.invokestatic 47, 3) := by decide +kernel
theorem dX5_causeOf_49 : decode cX5_causeOf 49 = .ok (.ifCond .eq 8, 3) := by decide +kernel
theorem dX5_causeOf_52 : decode cX5_causeOf 52 = .ok (.iload 4, 2) := by decide +kernel
theorem dX5_causeOf_54 : decode cX5_causeOf 54 = .ok (.goto 4, 3) := by decide +kernel
theorem dX5_causeOf_57 : decode cX5_causeOf 57 = .ok (.iload_n 3, 1) := by decide +kernel
theorem dX5_causeOf_58 : decode cX5_causeOf 58 = .ok (.istore_n 3, 1) := by decide +kernel
theorem dX5_causeOf_59 : decode cX5_causeOf 59 = .ok (.iinc 4 (-1), 3) := by decide +kernel
theorem dX5_causeOf_62 : decode cX5_causeOf 62 = .ok (.goto (-37), 3) := by decide +kernel
theorem dX5_causeOf_65 : decode cX5_causeOf 65 = .ok (.aload_n 0, 1) := by decide +kernel
theorem dX5_causeOf_66 : decode cX5_causeOf 66 = .ok (.getfield 68, 3) := by decide +kernel
theorem dX5_causeOf_69 : decode cX5_causeOf 69 = .ok (.iload_n 1, 1) := by decide +kernel
theorem dX5_causeOf_70 : decode cX5_causeOf 70 = .ok (.invokestatic 47, 3) := by decide +kernel
theorem dX5_causeOf_73 : decode cX5_causeOf 73 = .ok (.ifCond .eq 7, 3) := by decide +kernel
theorem dX5_causeOf_76 : decode cX5_causeOf 76 = .ok (.iload_n 3, 1) := by decide +kernel
theorem dX5_causeOf_77 : decode cX5_causeOf 77 = .ok (.goto 4, 3) := by decide +kernel
theorem dX5_causeOf_80 : decode cX5_causeOf 80 = .ok (.iconst (-1), 1) := by decide +kernel
theorem dX5_causeOf_81 : decode cX5_causeOf 81 = .ok (.ireturn, 1) := by decide +kernel
theorem dJ6_bitCount_0f7a4_0 : decode cJ6_bitCount_0f7a4 0 = .ok (.iload_n 0, 1) := by decide +kernel
theorem dJ6_bitCount_0f7a4_1 : decode cJ6_bitCount_0f7a4 1 = .ok (.iload_n 0, 1) := by decide +kernel
theorem dJ6_bitCount_0f7a4_2 : decode cJ6_bitCount_0f7a4 2 = .ok (.iconst 1, 1) := by decide +kernel
theorem dJ6_bitCount_0f7a4_3 : decode cJ6_bitCount_0f7a4 3 = .ok (.iushr, 1) := by decide +kernel
theorem dJ6_bitCount_0f7a4_4 : decode cJ6_bitCount_0f7a4 4 = .ok (.ldc_w 265, 3) := by decide +kernel
theorem dJ6_bitCount_0f7a4_7 : decode cJ6_bitCount_0f7a4 7 = .ok (.iand, 1) := by decide +kernel
theorem dJ6_bitCount_0f7a4_8 : decode cJ6_bitCount_0f7a4 8 = .ok (.isub, 1) := by decide +kernel
theorem dJ6_bitCount_0f7a4_9 : decode cJ6_bitCount_0f7a4 9 = .ok (.istore_n 0, 1) := by decide +kernel
theorem dJ6_bitCount_0f7a4_10 : decode cJ6_bitCount_0f7a4 10 = .ok (.iload_n 0, 1) := by decide +kernel
theorem dJ6_bitCount_0f7a4_11 : decode cJ6_bitCount_0f7a4 11 = .ok (.ldc_w 266, 3) := by decide +kernel
theorem dJ6_bitCount_0f7a4_14 : decode cJ6_bitCount_0f7a4 14 = .ok (.iand, 1) := by decide +kernel
theorem dJ6_bitCount_0f7a4_15 : decode cJ6_bitCount_0f7a4 15 = .ok (.iload_n 0, 1) := by decide +kernel
theorem dJ6_bitCount_0f7a4_16 : decode cJ6_bitCount_0f7a4 16 = .ok (.iconst 2, 1) := by decide +kernel
theorem dJ6_bitCount_0f7a4_17 : decode cJ6_bitCount_0f7a4 17 = .ok (.iushr, 1) := by decide +kernel
theorem dJ6_bitCount_0f7a4_18 : decode cJ6_bitCount_0f7a4 18 = .ok (.ldc_w 266, 3) := by decide +kernel
theorem dJ6_bitCount_0f7a4_21 : decode cJ6_bitCount_0f7a4 21 = .ok (.iand, 1) := by decide +kernel
theorem dJ6_bitCount_0f7a4_22 : decode cJ6_bitCount_0f7a4 22 = .ok (.iadd, 1) := by decide +kernel
theorem dJ6_bitCount_0f7a4_23 : decode cJ6_bitCount_0f7a4 23 = .ok (.istore_n 0, 1) := by decide +kernel
theorem dJ6_bitCount_0f7a4_24 : decode cJ6_bitCount_0f7a4 24 = .ok (.iload_n 0, 1) := by decide +kernel
theorem dJ6_bitCount_0f7a4_25 : decode cJ6_bitCount_0f7a4 25 = .ok (.iload_n 0, 1) := by decide +kernel
theorem dJ6_bitCount_0f7a4_26 : decode cJ6_bitCount_0f7a4 26 = .ok (.iconst 4, 1) := by decide +kernel
theorem dJ6_bitCount_0f7a4_27 : decode cJ6_bitCount_0f7a4 27 = .ok (.iushr, 1) := by decide +kernel
theorem dJ6_bitCount_0f7a4_28 : decode cJ6_bitCount_0f7a4 28 = .ok (.iadd, 1) := by decide +kernel
theorem dJ6_bitCount_0f7a4_29 : decode cJ6_bitCount_0f7a4 29 = .ok (.ldc_w 267, 3) := by decide +kernel
theorem dJ6_bitCount_0f7a4_32 : decode cJ6_bitCount_0f7a4 32 = .ok (.iand, 1) := by decide +kernel
theorem dJ6_bitCount_0f7a4_33 : decode cJ6_bitCount_0f7a4 33 = .ok (.istore_n 0, 1) := by decide +kernel
theorem dJ6_bitCount_0f7a4_34 : decode cJ6_bitCount_0f7a4 34 = .ok (.iload_n 0, 1) := by decide +kernel
theorem dJ6_bitCount_0f7a4_35 : decode cJ6_bitCount_0f7a4 35 = .ok (.iload_n 0, 1) := by decide +kernel
theorem dJ6_bitCount_0f7a4_36 : decode cJ6_bitCount_0f7a4 36 = .ok (.bipush 8, 2) := by decide +kernel
theorem dJ6_bitCount_0f7a4_38 : decode cJ6_bitCount_0f7a4 38 = .ok (.iushr, 1) := by decide +kernel
theorem dJ6_bitCount_0f7a4_39 : decode cJ6_bitCount_0f7a4 39 = .ok (.iadd, 1) := by decide +kernel
theorem dJ6_bitCount_0f7a4_40 : decode cJ6_bitCount_0f7a4 40 = .ok (.istore_n 0, 1) := by decide +kernel
theorem dJ6_bitCount_0f7a4_41 : decode cJ6_bitCount_0f7a4 41 = .ok (.iload_n 0, 1) := by decide +kernel
theorem dJ6_bitCount_0f7a4_42 : decode cJ6_bitCount_0f7a4 42 = .ok (.iload_n 0, 1) := by decide +kernel
theorem dJ6_bitCount_0f7a4_43 : decode cJ6_bitCount_0f7a4 43 = .ok (.bipush 16, 2) := by decide +kernel
theorem dJ6_bitCount_0f7a4_45 : decode cJ6_bitCount_0f7a4 45 = .ok (.iushr, 1) := by decide +kernel
theorem dJ6_bitCount_0f7a4_46 : decode cJ6_bitCount_0f7a4 46 = .ok (.iadd, 1) := by decide +kernel
theorem dJ6_bitCount_0f7a4_47 : decode cJ6_bitCount_0f7a4 47 = .ok (.istore_n 0, 1) := by decide +kernel
theorem dJ6_bitCount_0f7a4_48 : decode cJ6_bitCount_0f7a4 48 = .ok (.iload_n 0, 1) := by decide +kernel
theorem dJ6_bitCount_0f7a4_49 : decode cJ6_bitCount_0f7a4 49 = .ok (.bipush 63, 2) := by decide +kernel
theorem dJ6_bitCount_0f7a4_51 : decode cJ6_bitCount_0f7a4 51 = .ok (.iand, 1) := by decide +kernel
theorem dJ6_bitCount_0f7a4_52 : decode cJ6_bitCount_0f7a4 52 = .ok (.ireturn, 1) := by decide +kernel
theorem dJ9_min_7cf53_0 : decode cJ9_min_7cf53 0 = .ok (.iload_n 0, 1) := by decide +kernel
theorem dJ9_min_7cf53_1 : decode cJ9_min_7cf53 1 = .ok (.iload_n 1, 1) := by decide +kernel
theorem dJ9_min_7cf53_2 : decode cJ9_min_7cf53 2 = .ok (.if_icmp .gt 7, 3) := by decide +kernel
theorem dJ9_min_7cf53_5 : decode cJ9_min_7cf53 5 = .ok (.iload_n 0, 1) := by decide +kernel
theorem dJ9_min_7cf53_6 : decode cJ9_min_7cf53 6 = .ok (.goto 4, 3) := by decide +kernel
theorem dJ9_min_7cf53_9 : decode cJ9_min_7cf53 9 = .ok (.iload_n 1, 1) := by decide +kernel
theorem dJ9_min_7cf53_10 : decode cJ9_min_7cf53 10 = .ok (.ireturn, 1) := by decide +kernel
theorem dL_need_0 : decode cL_need 0 = .ok (.aload_n 3, 1) := by decide +kernel
theorem dL_need_1 : decode cL_need 1 = .ok (.iconst 0, 1) := by decide +kernel
theorem dL_need_2 : decode cL_need 2 = .ok (.aload_n 0, 1) := by decide +kernel
theorem dL_need_3 : decode cL_need 3 = .ok (.iload_n 1, 1) := by decide +kernel
theorem dL_need_4 : decode cL_need 4 = .ok (.iload_n 2, 1) := by decide +kernel
theorem dL_need_5 : decode cL_need 5 = .ok (.invokevirtual 7, 3) := by decide +kernel
theorem dL_need_8 : decode cL_need 8 = .ok (.ifCond .eq 7, 3) := by decide +kernel
theorem dL_need_11 : decode cL_need 11 = .ok (.lconst 1, 1) := by decide +kernel
theorem dL_need_12 : decode cL_need 12 = .ok (.goto 4, 3) := by decide +kernel
theorem dL_need_15 : decode cL_need 15 = .ok (.lconst 0, 1) := by decide +kernel
theorem dL_need_16 : decode cL_need 16 = .ok (.lastore, 1) := by decide +kernel
theorem dL_need_17 : decode cL_need 17 = .ok (.goto 11, 3) := by decide +kernel
theorem dL_need_20 : decode cL_need 20 = .ok (.astore 4, 2) := by decide +kernel
theorem dL_need_22 : decode cL_need 22 = .ok (.iconst 1, 1) := by decide +kernel
theorem dL_need_23 : decode cL_need 23 = .ok (.ireturn, 1) := by decide +kernel
theorem dL_need_24 : decode cL_need 24 = .ok (.astore 4, 2) := by decide +kernel
theorem dL_need_26 : decode cL_need 26 = .ok (.iconst 2, 1) := by decide +kernel
theorem dL_need_27 : decode cL_need 27 = .ok (.ireturn, 1) := by decide +kernel
theorem dL_need_28 : decode cL_need 28 = .ok (.iconst 0, 1) := by decide +kernel
theorem dL_need_29 : decode cL_need 29 = .ok (.ireturn, 1) := by decide +kernel
theorem dL_release_0 : decode cL_release 0 = .ok (.aload_n 3, 1) := by decide +kernel
theorem dL_release_1 : decode cL_release 1 = .ok (.iconst 0, 1) := by decide +kernel
theorem dL_release_2 : decode cL_release 2 = .ok (.aload_n 0, 1) := by decide +kernel
theorem dL_release_3 : decode cL_release 3 = .ok (.iload_n 1, 1) := by decide +kernel
theorem dL_release_4 : decode cL_release 4 = .ok (.iload_n 2, 1) := by decide +kernel
theorem dL_release_5 : decode cL_release 5 = .ok (.invokevirtual 17, 3) := by decide +kernel
theorem dL_release_8 : decode cL_release 8 = .ok (.ifCond .eq 7, 3) := by decide +kernel
theorem dL_release_11 : decode cL_release 11 = .ok (.lconst 1, 1) := by decide +kernel
theorem dL_release_12 : decode cL_release 12 = .ok (.goto 4, 3) := by decide +kernel
theorem dL_release_15 : decode cL_release 15 = .ok (.lconst 0, 1) := by decide +kernel
theorem dL_release_16 : decode cL_release 16 = .ok (.lastore, 1) := by decide +kernel
theorem dL_release_17 : decode cL_release 17 = .ok (.goto 7, 3) := by decide +kernel
theorem dL_release_20 : decode cL_release 20 = .ok (.astore 4, 2) := by decide +kernel
theorem dL_release_22 : decode cL_release 22 = .ok (.iconst 1, 1) := by decide +kernel
theorem dL_release_23 : decode cL_release 23 = .ok (.ireturn, 1) := by decide +kernel
theorem dL_release_24 : decode cL_release 24 = .ok (.iconst 0, 1) := by decide +kernel
theorem dL_release_25 : decode cL_release 25 = .ok (.ireturn, 1) := by decide +kernel
theorem dL_needs_0 : decode cL_needs 0 = .ok (.aload_n 3, 1) := by decide +kernel
theorem dL_needs_1 : decode cL_needs 1 = .ok (.iconst 0, 1) := by decide +kernel
theorem dL_needs_2 : decode cL_needs 2 = .ok (.aload_n 0, 1) := by decide +kernel
theorem dL_needs_3 : decode cL_needs 3 = .ok (.iload_n 1, 1) := by decide +kernel
theorem dL_needs_4 : decode cL_needs 4 = .ok (.iload_n 2, 1) := by decide +kernel
theorem dL_needs_5 : decode cL_needs 5 = .ok (.invokevirtual 20, 3) := by decide +kernel
theorem dL_needs_8 : decode cL_needs 8 = .ok (.ifCond .eq 7, 3) := by decide +kernel
theorem dL_needs_11 : decode cL_needs 11 = .ok (.lconst 1, 1) := by decide +kernel
theorem dL_needs_12 : decode cL_needs 12 = .ok (.goto 4, 3) := by decide +kernel
theorem dL_needs_15 : decode cL_needs 15 = .ok (.lconst 0, 1) := by decide +kernel
theorem dL_needs_16 : decode cL_needs 16 = .ok (.lastore, 1) := by decide +kernel
theorem dL_needs_17 : decode cL_needs 17 = .ok (.goto 7, 3) := by decide +kernel
theorem dL_needs_20 : decode cL_needs 20 = .ok (.astore 4, 2) := by decide +kernel
theorem dL_needs_22 : decode cL_needs 22 = .ok (.iconst 1, 1) := by decide +kernel
theorem dL_needs_23 : decode cL_needs 23 = .ok (.ireturn, 1) := by decide +kernel
theorem dL_needs_24 : decode cL_needs 24 = .ok (.iconst 0, 1) := by decide +kernel
theorem dL_needs_25 : decode cL_needs 25 = .ok (.ireturn, 1) := by decide +kernel
theorem dL_dependsOn_0 : decode cL_dependsOn 0 = .ok (.aload_n 3, 1) := by decide +kernel
theorem dL_dependsOn_1 : decode cL_dependsOn 1 = .ok (.iconst 0, 1) := by decide +kernel
theorem dL_dependsOn_2 : decode cL_dependsOn 2 = .ok (.aload_n 0, 1) := by decide +kernel
theorem dL_dependsOn_3 : decode cL_dependsOn 3 = .ok (.iload_n 1, 1) := by decide +kernel
theorem dL_dependsOn_4 : decode cL_dependsOn 4 = .ok (.iload_n 2, 1) := by decide +kernel
theorem dL_dependsOn_5 : decode cL_dependsOn 5 = .ok (.invokevirtual 23, 3) := by decide +kernel
theorem dL_dependsOn_8 : decode cL_dependsOn 8 = .ok (.ifCond .eq 7, 3) := by decide +kernel
theorem dL_dependsOn_11 : decode cL_dependsOn 11 = .ok (.lconst 1, 1) := by decide +kernel
theorem dL_dependsOn_12 : decode cL_dependsOn 12 = .ok (.goto 4, 3) := by decide +kernel
theorem dL_dependsOn_15 : decode cL_dependsOn 15 = .ok (.lconst 0, 1) := by decide +kernel
theorem dL_dependsOn_16 : decode cL_dependsOn 16 = .ok (.lastore, 1) := by decide +kernel
theorem dL_dependsOn_17 : decode cL_dependsOn 17 = .ok (.goto 7, 3) := by decide +kernel
theorem dL_dependsOn_20 : decode cL_dependsOn 20 = .ok (.astore 4, 2) := by decide +kernel
theorem dL_dependsOn_22 : decode cL_dependsOn 22 = .ok (.iconst 1, 1) := by decide +kernel
theorem dL_dependsOn_23 : decode cL_dependsOn 23 = .ok (.ireturn, 1) := by decide +kernel
theorem dL_dependsOn_24 : decode cL_dependsOn 24 = .ok (.iconst 0, 1) := by decide +kernel
theorem dL_dependsOn_25 : decode cL_dependsOn 25 = .ok (.ireturn, 1) := by decide +kernel
theorem dL_height_0 : decode cL_height 0 = .ok (.aload_n 2, 1) := by decide +kernel
theorem dL_height_1 : decode cL_height 1 = .ok (.iconst 0, 1) := by decide +kernel
theorem dL_height_2 : decode cL_height 2 = .ok (.aload_n 0, 1) := by decide +kernel
theorem dL_height_3 : decode cL_height 3 = .ok (.iload_n 1, 1) := by decide +kernel
theorem dL_height_4 : decode cL_height 4 = .ok (.invokevirtual 26, 3) := by decide +kernel
theorem dL_height_7 : decode cL_height 7 = .ok (.i2l, 1) := by decide +kernel
theorem dL_height_8 : decode cL_height 8 = .ok (.lastore, 1) := by decide +kernel
theorem dL_height_9 : decode cL_height 9 = .ok (.goto 6, 3) := by decide +kernel
theorem dL_height_12 : decode cL_height 12 = .ok (.astore_n 3, 1) := by decide +kernel
theorem dL_height_13 : decode cL_height 13 = .ok (.iconst 1, 1) := by decide +kernel
theorem dL_height_14 : decode cL_height 14 = .ok (.ireturn, 1) := by decide +kernel
theorem dL_height_15 : decode cL_height 15 = .ok (.iconst 0, 1) := by decide +kernel
theorem dL_height_16 : decode cL_height 16 = .ok (.ireturn, 1) := by decide +kernel
theorem dL_tick_0 : decode cL_tick 0 = .ok (.aload_n 2, 1) := by decide +kernel
theorem dL_tick_1 : decode cL_tick 1 = .ok (.iconst 0, 1) := by decide +kernel
theorem dL_tick_2 : decode cL_tick 2 = .ok (.aload_n 0, 1) := by decide +kernel
theorem dL_tick_3 : decode cL_tick 3 = .ok (.iload_n 1, 1) := by decide +kernel
theorem dL_tick_4 : decode cL_tick 4 = .ok (.invokevirtual 30, 3) := by decide +kernel
theorem dL_tick_7 : decode cL_tick 7 = .ok (.i2l, 1) := by decide +kernel
theorem dL_tick_8 : decode cL_tick 8 = .ok (.lastore, 1) := by decide +kernel
theorem dL_tick_9 : decode cL_tick 9 = .ok (.goto 6, 3) := by decide +kernel
theorem dL_tick_12 : decode cL_tick 12 = .ok (.astore_n 3, 1) := by decide +kernel
theorem dL_tick_13 : decode cL_tick 13 = .ok (.iconst 1, 1) := by decide +kernel
theorem dL_tick_14 : decode cL_tick 14 = .ok (.ireturn, 1) := by decide +kernel
theorem dL_tick_15 : decode cL_tick 15 = .ok (.iconst 0, 1) := by decide +kernel
theorem dL_tick_16 : decode cL_tick 16 = .ok (.ireturn, 1) := by decide +kernel
theorem dL_raise_0 : decode cL_raise 0 = .ok (.aload_n 2, 1) := by decide +kernel
theorem dL_raise_1 : decode cL_raise 1 = .ok (.iconst 0, 1) := by decide +kernel
theorem dL_raise_2 : decode cL_raise 2 = .ok (.aload_n 0, 1) := by decide +kernel
theorem dL_raise_3 : decode cL_raise 3 = .ok (.iload_n 1, 1) := by decide +kernel
theorem dL_raise_4 : decode cL_raise 4 = .ok (.invokevirtual 33, 3) := by decide +kernel
theorem dL_raise_7 : decode cL_raise 7 = .ok (.i2l, 1) := by decide +kernel
theorem dL_raise_8 : decode cL_raise 8 = .ok (.lastore, 1) := by decide +kernel
theorem dL_raise_9 : decode cL_raise 9 = .ok (.goto 9, 3) := by decide +kernel
theorem dL_raise_12 : decode cL_raise 12 = .ok (.astore_n 3, 1) := by decide +kernel
theorem dL_raise_13 : decode cL_raise 13 = .ok (.iconst 1, 1) := by decide +kernel
theorem dL_raise_14 : decode cL_raise 14 = .ok (.ireturn, 1) := by decide +kernel
theorem dL_raise_15 : decode cL_raise 15 = .ok (.astore_n 3, 1) := by decide +kernel
theorem dL_raise_16 : decode cL_raise 16 = .ok (.iconst 2, 1) := by decide +kernel
theorem dL_raise_17 : decode cL_raise 17 = .ok (.ireturn, 1) := by decide +kernel
theorem dL_raise_18 : decode cL_raise 18 = .ok (.iconst 0, 1) := by decide +kernel
theorem dL_raise_19 : decode cL_raise 19 = .ok (.ireturn, 1) := by decide +kernel
theorem dL_clear_0 : decode cL_clear 0 = .ok (.aload_n 2, 1) := by decide +kernel
theorem dL_clear_1 : decode cL_clear 1 = .ok (.iconst 0, 1) := by decide +kernel
theorem dL_clear_2 : decode cL_clear 2 = .ok (.aload_n 0, 1) := by decide +kernel
theorem dL_clear_3 : decode cL_clear 3 = .ok (.iload_n 1, 1) := by decide +kernel
theorem dL_clear_4 : decode cL_clear 4 = .ok (.invokevirtual 38, 3) := by decide +kernel
theorem dL_clear_7 : decode cL_clear 7 = .ok (.i2l, 1) := by decide +kernel
theorem dL_clear_8 : decode cL_clear 8 = .ok (.lastore, 1) := by decide +kernel
theorem dL_clear_9 : decode cL_clear 9 = .ok (.goto 9, 3) := by decide +kernel
theorem dL_clear_12 : decode cL_clear 12 = .ok (.astore_n 3, 1) := by decide +kernel
theorem dL_clear_13 : decode cL_clear 13 = .ok (.iconst 1, 1) := by decide +kernel
theorem dL_clear_14 : decode cL_clear 14 = .ok (.ireturn, 1) := by decide +kernel
theorem dL_clear_15 : decode cL_clear 15 = .ok (.astore_n 3, 1) := by decide +kernel
theorem dL_clear_16 : decode cL_clear 16 = .ok (.iconst 2, 1) := by decide +kernel
theorem dL_clear_17 : decode cL_clear 17 = .ok (.ireturn, 1) := by decide +kernel
theorem dL_clear_18 : decode cL_clear 18 = .ok (.iconst 0, 1) := by decide +kernel
theorem dL_clear_19 : decode cL_clear 19 = .ok (.ireturn, 1) := by decide +kernel
theorem dL_state_0 : decode cL_state 0 = .ok (.aload_n 2, 1) := by decide +kernel
theorem dL_state_1 : decode cL_state 1 = .ok (.iconst 0, 1) := by decide +kernel
theorem dL_state_2 : decode cL_state 2 = .ok (.aload_n 0, 1) := by decide +kernel
theorem dL_state_3 : decode cL_state 3 = .ok (.iload_n 1, 1) := by decide +kernel
theorem dL_state_4 : decode cL_state 4 = .ok (.invokevirtual 41, 3) := by decide +kernel
theorem dL_state_7 : decode cL_state 7 = .ok (.i2l, 1) := by decide +kernel
theorem dL_state_8 : decode cL_state 8 = .ok (.lastore, 1) := by decide +kernel
theorem dL_state_9 : decode cL_state 9 = .ok (.goto 6, 3) := by decide +kernel
theorem dL_state_12 : decode cL_state 12 = .ok (.astore_n 3, 1) := by decide +kernel
theorem dL_state_13 : decode cL_state 13 = .ok (.iconst 1, 1) := by decide +kernel
theorem dL_state_14 : decode cL_state 14 = .ok (.ireturn, 1) := by decide +kernel
theorem dL_state_15 : decode cL_state 15 = .ok (.iconst 0, 1) := by decide +kernel
theorem dL_state_16 : decode cL_state 16 = .ok (.ireturn, 1) := by decide +kernel
theorem dL_nodesThatAre_0 : decode cL_nodesThatAre 0 = .ok (.aload_n 2, 1) := by decide +kernel
theorem dL_nodesThatAre_1 : decode cL_nodesThatAre 1 = .ok (.iconst 0, 1) := by decide +kernel
theorem dL_nodesThatAre_2 : decode cL_nodesThatAre 2 = .ok (.aload_n 0, 1) := by decide +kernel
theorem dL_nodesThatAre_3 : decode cL_nodesThatAre 3 = .ok (.iload_n 1, 1) := by decide +kernel
theorem dL_nodesThatAre_4 : decode cL_nodesThatAre 4 = .ok (.invokevirtual 44, 3) := by decide +kernel
theorem dL_nodesThatAre_7 : decode cL_nodesThatAre 7 = .ok (.i2l, 1) := by decide +kernel
theorem dL_nodesThatAre_8 : decode cL_nodesThatAre 8 = .ok (.lastore, 1) := by decide +kernel
theorem dL_nodesThatAre_9 : decode cL_nodesThatAre 9 = .ok (.goto 6, 3) := by decide +kernel
theorem dL_nodesThatAre_12 : decode cL_nodesThatAre 12 = .ok (.astore_n 3, 1) := by decide +kernel
theorem dL_nodesThatAre_13 : decode cL_nodesThatAre 13 = .ok (.iconst 1, 1) := by decide +kernel
theorem dL_nodesThatAre_14 : decode cL_nodesThatAre 14 = .ok (.ireturn, 1) := by decide +kernel
theorem dL_nodesThatAre_15 : decode cL_nodesThatAre 15 = .ok (.iconst 0, 1) := by decide +kernel
theorem dL_nodesThatAre_16 : decode cL_nodesThatAre 16 = .ok (.ireturn, 1) := by decide +kernel
theorem dL_raises_0 : decode cL_raises 0 = .ok (.aload_n 3, 1) := by decide +kernel
theorem dL_raises_1 : decode cL_raises 1 = .ok (.iconst 0, 1) := by decide +kernel
theorem dL_raises_2 : decode cL_raises 2 = .ok (.aload_n 0, 1) := by decide +kernel
theorem dL_raises_3 : decode cL_raises 3 = .ok (.iload_n 1, 1) := by decide +kernel
theorem dL_raises_4 : decode cL_raises 4 = .ok (.iload_n 2, 1) := by decide +kernel
end
section
theorem dL_raises_5 : decode cL_raises 5 = .ok (.invokevirtual 47, 3) := by decide +kernel
theorem dL_raises_8 : decode cL_raises 8 = .ok (.i2l, 1) := by decide +kernel
theorem dL_raises_9 : decode cL_raises 9 = .ok (.lastore, 1) := by decide +kernel
theorem dL_raises_10 : decode cL_raises 10 = .ok (.goto 11, 3) := by decide +kernel
theorem dL_raises_13 : decode cL_raises 13 = .ok (.astore 4, 2) := by decide +kernel
theorem dL_raises_15 : decode cL_raises 15 = .ok (.iconst 1, 1) := by decide +kernel
theorem dL_raises_16 : decode cL_raises 16 = .ok (.ireturn, 1) := by decide +kernel
theorem dL_raises_17 : decode cL_raises 17 = .ok (.astore 4, 2) := by decide +kernel
theorem dL_raises_19 : decode cL_raises 19 = .ok (.iconst 2, 1) := by decide +kernel
theorem dL_raises_20 : decode cL_raises 20 = .ok (.ireturn, 1) := by decide +kernel
theorem dL_raises_21 : decode cL_raises 21 = .ok (.iconst 0, 1) := by decide +kernel
theorem dL_raises_22 : decode cL_raises 22 = .ok (.ireturn, 1) := by decide +kernel
theorem dL_eventKind_0 : decode cL_eventKind 0 = .ok (.aload_n 2, 1) := by decide +kernel
theorem dL_eventKind_1 : decode cL_eventKind 1 = .ok (.iconst 0, 1) := by decide +kernel
theorem dL_eventKind_2 : decode cL_eventKind 2 = .ok (.aload_n 0, 1) := by decide +kernel
theorem dL_eventKind_3 : decode cL_eventKind 3 = .ok (.iload_n 1, 1) := by decide +kernel
theorem dL_eventKind_4 : decode cL_eventKind 4 = .ok (.invokevirtual 51, 3) := by decide +kernel
theorem dL_eventKind_7 : decode cL_eventKind 7 = .ok (.i2l, 1) := by decide +kernel
theorem dL_eventKind_8 : decode cL_eventKind 8 = .ok (.lastore, 1) := by decide +kernel
theorem dL_eventKind_9 : decode cL_eventKind 9 = .ok (.goto 6, 3) := by decide +kernel
theorem dL_eventKind_12 : decode cL_eventKind 12 = .ok (.astore_n 3, 1) := by decide +kernel
theorem dL_eventKind_13 : decode cL_eventKind 13 = .ok (.iconst 1, 1) := by decide +kernel
theorem dL_eventKind_14 : decode cL_eventKind 14 = .ok (.ireturn, 1) := by decide +kernel
theorem dL_eventKind_15 : decode cL_eventKind 15 = .ok (.iconst 0, 1) := by decide +kernel
theorem dL_eventKind_16 : decode cL_eventKind 16 = .ok (.ireturn, 1) := by decide +kernel
theorem dL_eventNode_0 : decode cL_eventNode 0 = .ok (.aload_n 2, 1) := by decide +kernel
theorem dL_eventNode_1 : decode cL_eventNode 1 = .ok (.iconst 0, 1) := by decide +kernel
theorem dL_eventNode_2 : decode cL_eventNode 2 = .ok (.aload_n 0, 1) := by decide +kernel
theorem dL_eventNode_3 : decode cL_eventNode 3 = .ok (.iload_n 1, 1) := by decide +kernel
theorem dL_eventNode_4 : decode cL_eventNode 4 = .ok (.invokevirtual 54, 3) := by decide +kernel
theorem dL_eventNode_7 : decode cL_eventNode 7 = .ok (.i2l, 1) := by decide +kernel
theorem dL_eventNode_8 : decode cL_eventNode 8 = .ok (.lastore, 1) := by decide +kernel
theorem dL_eventNode_9 : decode cL_eventNode 9 = .ok (.goto 6, 3) := by decide +kernel
theorem dL_eventNode_12 : decode cL_eventNode 12 = .ok (.astore_n 3, 1) := by decide +kernel
theorem dL_eventNode_13 : decode cL_eventNode 13 = .ok (.iconst 1, 1) := by decide +kernel
theorem dL_eventNode_14 : decode cL_eventNode 14 = .ok (.ireturn, 1) := by decide +kernel
theorem dL_eventNode_15 : decode cL_eventNode 15 = .ok (.iconst 0, 1) := by decide +kernel
theorem dL_eventNode_16 : decode cL_eventNode 16 = .ok (.ireturn, 1) := by decide +kernel
theorem dL_eventTime_0 : decode cL_eventTime 0 = .ok (.aload_n 2, 1) := by decide +kernel
theorem dL_eventTime_1 : decode cL_eventTime 1 = .ok (.iconst 0, 1) := by decide +kernel
theorem dL_eventTime_2 : decode cL_eventTime 2 = .ok (.aload_n 0, 1) := by decide +kernel
theorem dL_eventTime_3 : decode cL_eventTime 3 = .ok (.iload_n 1, 1) := by decide +kernel
theorem dL_eventTime_4 : decode cL_eventTime 4 = .ok (.invokevirtual 57, 3) := by decide +kernel
theorem dL_eventTime_7 : decode cL_eventTime 7 = .ok (.i2l, 1) := by decide +kernel
theorem dL_eventTime_8 : decode cL_eventTime 8 = .ok (.lastore, 1) := by decide +kernel
theorem dL_eventTime_9 : decode cL_eventTime 9 = .ok (.goto 6, 3) := by decide +kernel
theorem dL_eventTime_12 : decode cL_eventTime 12 = .ok (.astore_n 3, 1) := by decide +kernel
theorem dL_eventTime_13 : decode cL_eventTime 13 = .ok (.iconst 1, 1) := by decide +kernel
theorem dL_eventTime_14 : decode cL_eventTime 14 = .ok (.ireturn, 1) := by decide +kernel
theorem dL_eventTime_15 : decode cL_eventTime 15 = .ok (.iconst 0, 1) := by decide +kernel
theorem dL_eventTime_16 : decode cL_eventTime 16 = .ok (.ireturn, 1) := by decide +kernel
theorem dL_eventLength_0 : decode cL_eventLength 0 = .ok (.aload_n 2, 1) := by decide +kernel
theorem dL_eventLength_1 : decode cL_eventLength 1 = .ok (.iconst 0, 1) := by decide +kernel
theorem dL_eventLength_2 : decode cL_eventLength 2 = .ok (.aload_n 0, 1) := by decide +kernel
theorem dL_eventLength_3 : decode cL_eventLength 3 = .ok (.iload_n 1, 1) := by decide +kernel
theorem dL_eventLength_4 : decode cL_eventLength 4 = .ok (.invokevirtual 60, 3) := by decide +kernel
theorem dL_eventLength_7 : decode cL_eventLength 7 = .ok (.i2l, 1) := by decide +kernel
theorem dL_eventLength_8 : decode cL_eventLength 8 = .ok (.lastore, 1) := by decide +kernel
theorem dL_eventLength_9 : decode cL_eventLength 9 = .ok (.goto 6, 3) := by decide +kernel
theorem dL_eventLength_12 : decode cL_eventLength 12 = .ok (.astore_n 3, 1) := by decide +kernel
theorem dL_eventLength_13 : decode cL_eventLength 13 = .ok (.iconst 1, 1) := by decide +kernel
theorem dL_eventLength_14 : decode cL_eventLength 14 = .ok (.ireturn, 1) := by decide +kernel
theorem dL_eventLength_15 : decode cL_eventLength 15 = .ok (.iconst 0, 1) := by decide +kernel
theorem dL_eventLength_16 : decode cL_eventLength 16 = .ok (.ireturn, 1) := by decide +kernel
theorem dL_ticketOf_0 : decode cL_ticketOf 0 = .ok (.aload_n 2, 1) := by decide +kernel
theorem dL_ticketOf_1 : decode cL_ticketOf 1 = .ok (.iconst 0, 1) := by decide +kernel
theorem dL_ticketOf_2 : decode cL_ticketOf 2 = .ok (.aload_n 0, 1) := by decide +kernel
theorem dL_ticketOf_3 : decode cL_ticketOf 3 = .ok (.iload_n 1, 1) := by decide +kernel
theorem dL_ticketOf_4 : decode cL_ticketOf 4 = .ok (.invokevirtual 63, 3) := by decide +kernel
theorem dL_ticketOf_7 : decode cL_ticketOf 7 = .ok (.i2l, 1) := by decide +kernel
theorem dL_ticketOf_8 : decode cL_ticketOf 8 = .ok (.lastore, 1) := by decide +kernel
theorem dL_ticketOf_9 : decode cL_ticketOf 9 = .ok (.goto 6, 3) := by decide +kernel
theorem dL_ticketOf_12 : decode cL_ticketOf 12 = .ok (.astore_n 3, 1) := by decide +kernel
theorem dL_ticketOf_13 : decode cL_ticketOf 13 = .ok (.iconst 1, 1) := by decide +kernel
theorem dL_ticketOf_14 : decode cL_ticketOf 14 = .ok (.ireturn, 1) := by decide +kernel
theorem dL_ticketOf_15 : decode cL_ticketOf 15 = .ok (.iconst 0, 1) := by decide +kernel
theorem dL_ticketOf_16 : decode cL_ticketOf 16 = .ok (.ireturn, 1) := by decide +kernel
theorem dL_isPlausible_0 : decode cL_isPlausible 0 = .ok (.aload_n 2, 1) := by decide +kernel
theorem dL_isPlausible_1 : decode cL_isPlausible 1 = .ok (.iconst 0, 1) := by decide +kernel
theorem dL_isPlausible_2 : decode cL_isPlausible 2 = .ok (.aload_n 0, 1) := by decide +kernel
theorem dL_isPlausible_3 : decode cL_isPlausible 3 = .ok (.iload_n 1, 1) := by decide +kernel
theorem dL_isPlausible_4 : decode cL_isPlausible 4 = .ok (.invokevirtual 66, 3) := by decide +kernel
theorem dL_isPlausible_7 : decode cL_isPlausible 7 = .ok (.ifCond .eq 7, 3) := by decide +kernel
theorem dL_isPlausible_10 : decode cL_isPlausible 10 = .ok (.lconst 1, 1) := by decide +kernel
theorem dL_isPlausible_11 : decode cL_isPlausible 11 = .ok (.goto 4, 3) := by decide +kernel
theorem dL_isPlausible_14 : decode cL_isPlausible 14 = .ok (.lconst 0, 1) := by decide +kernel
theorem dL_isPlausible_15 : decode cL_isPlausible 15 = .ok (.lastore, 1) := by decide +kernel
theorem dL_isPlausible_16 : decode cL_isPlausible 16 = .ok (.goto 6, 3) := by decide +kernel
theorem dL_isPlausible_19 : decode cL_isPlausible 19 = .ok (.astore_n 3, 1) := by decide +kernel
theorem dL_isPlausible_20 : decode cL_isPlausible 20 = .ok (.iconst 1, 1) := by decide +kernel
theorem dL_isPlausible_21 : decode cL_isPlausible 21 = .ok (.ireturn, 1) := by decide +kernel
theorem dL_isPlausible_22 : decode cL_isPlausible 22 = .ok (.iconst 0, 1) := by decide +kernel
theorem dL_isPlausible_23 : decode cL_isPlausible 23 = .ok (.ireturn, 1) := by decide +kernel
theorem dL_cause_0 : decode cL_cause 0 = .ok (.aload_n 2, 1) := by decide +kernel
theorem dL_cause_1 : decode cL_cause 1 = .ok (.iconst 0, 1) := by decide +kernel
theorem dL_cause_2 : decode cL_cause 2 = .ok (.aload_n 0, 1) := by decide +kernel
theorem dL_cause_3 : decode cL_cause 3 = .ok (.iload_n 1, 1) := by decide +kernel
theorem dL_cause_4 : decode cL_cause 4 = .ok (.invokevirtual 70, 3) := by decide +kernel
theorem dL_cause_7 : decode cL_cause 7 = .ok (.i2l, 1) := by decide +kernel
theorem dL_cause_8 : decode cL_cause 8 = .ok (.lastore, 1) := by decide +kernel
theorem dL_cause_9 : decode cL_cause 9 = .ok (.goto 6, 3) := by decide +kernel
theorem dL_cause_12 : decode cL_cause 12 = .ok (.astore_n 3, 1) := by decide +kernel
theorem dL_cause_13 : decode cL_cause 13 = .ok (.iconst 1, 1) := by decide +kernel
theorem dL_cause_14 : decode cL_cause 14 = .ok (.ireturn, 1) := by decide +kernel
theorem dL_cause_15 : decode cL_cause 15 = .ok (.iconst 0, 1) := by decide +kernel
theorem dL_cause_16 : decode cL_cause 16 = .ok (.ireturn, 1) := by decide +kernel
theorem dL_causeByTrying_0 : decode cL_causeByTrying 0 = .ok (.aload_n 2, 1) := by decide +kernel
theorem dL_causeByTrying_1 : decode cL_causeByTrying 1 = .ok (.iconst 0, 1) := by decide +kernel
theorem dL_causeByTrying_2 : decode cL_causeByTrying 2 = .ok (.aload_n 0, 1) := by decide +kernel
theorem dL_causeByTrying_3 : decode cL_causeByTrying 3 = .ok (.iload_n 1, 1) := by decide +kernel
theorem dL_causeByTrying_4 : decode cL_causeByTrying 4 = .ok (.invokevirtual 73, 3) := by decide +kernel
theorem dL_causeByTrying_7 : decode cL_causeByTrying 7 = .ok (.i2l, 1) := by decide +kernel
theorem dL_causeByTrying_8 : decode cL_causeByTrying 8 = .ok (.lastore, 1) := by decide +kernel
theorem dL_causeByTrying_9 : decode cL_causeByTrying 9 = .ok (.goto 6, 3) := by decide +kernel
theorem dL_causeByTrying_12 : decode cL_causeByTrying 12 = .ok (.astore_n 3, 1) := by decide +kernel
theorem dL_causeByTrying_13 : decode cL_causeByTrying 13 = .ok (.iconst 1, 1) := by decide +kernel
theorem dL_causeByTrying_14 : decode cL_causeByTrying 14 = .ok (.ireturn, 1) := by decide +kernel
theorem dL_causeByTrying_15 : decode cL_causeByTrying 15 = .ok (.iconst 0, 1) := by decide +kernel
theorem dL_causeByTrying_16 : decode cL_causeByTrying 16 = .ok (.ireturn, 1) := by decide +kernel
theorem dL_greedyCause_0 : decode cL_greedyCause 0 = .ok (.aload_n 2, 1) := by decide +kernel
theorem dL_greedyCause_1 : decode cL_greedyCause 1 = .ok (.iconst 0, 1) := by decide +kernel
theorem dL_greedyCause_2 : decode cL_greedyCause 2 = .ok (.aload_n 0, 1) := by decide +kernel
theorem dL_greedyCause_3 : decode cL_greedyCause 3 = .ok (.iload_n 1, 1) := by decide +kernel
theorem dL_greedyCause_4 : decode cL_greedyCause 4 = .ok (.invokevirtual 76, 3) := by decide +kernel
theorem dL_greedyCause_7 : decode cL_greedyCause 7 = .ok (.i2l, 1) := by decide +kernel
theorem dL_greedyCause_8 : decode cL_greedyCause 8 = .ok (.lastore, 1) := by decide +kernel
theorem dL_greedyCause_9 : decode cL_greedyCause 9 = .ok (.goto 6, 3) := by decide +kernel
theorem dL_greedyCause_12 : decode cL_greedyCause 12 = .ok (.astore_n 3, 1) := by decide +kernel
theorem dL_greedyCause_13 : decode cL_greedyCause 13 = .ok (.iconst 1, 1) := by decide +kernel
theorem dL_greedyCause_14 : decode cL_greedyCause 14 = .ok (.ireturn, 1) := by decide +kernel
theorem dL_greedyCause_15 : decode cL_greedyCause 15 = .ok (.iconst 0, 1) := by decide +kernel
theorem dL_greedyCause_16 : decode cL_greedyCause 16 = .ok (.ireturn, 1) := by decide +kernel
theorem dL_causeOf_0 : decode cL_causeOf 0 = .ok (.aload_n 2, 1) := by decide +kernel
theorem dL_causeOf_1 : decode cL_causeOf 1 = .ok (.iconst 0, 1) := by decide +kernel
theorem dL_causeOf_2 : decode cL_causeOf 2 = .ok (.aload_n 0, 1) := by decide +kernel
theorem dL_causeOf_3 : decode cL_causeOf 3 = .ok (.iload_n 1, 1) := by decide +kernel
theorem dL_causeOf_4 : decode cL_causeOf 4 = .ok (.invokevirtual 79, 3) := by decide +kernel
theorem dL_causeOf_7 : decode cL_causeOf 7 = .ok (.i2l, 1) := by decide +kernel
theorem dL_causeOf_8 : decode cL_causeOf 8 = .ok (.lastore, 1) := by decide +kernel
theorem dL_causeOf_9 : decode cL_causeOf 9 = .ok (.goto 6, 3) := by decide +kernel
theorem dL_causeOf_12 : decode cL_causeOf 12 = .ok (.astore_n 3, 1) := by decide +kernel
theorem dL_causeOf_13 : decode cL_causeOf 13 = .ok (.iconst 1, 1) := by decide +kernel
theorem dL_causeOf_14 : decode cL_causeOf 14 = .ok (.ireturn, 1) := by decide +kernel
theorem dL_causeOf_15 : decode cL_causeOf 15 = .ok (.iconst 0, 1) := by decide +kernel
theorem dL_causeOf_16 : decode cL_causeOf 16 = .ok (.ireturn, 1) := by decide +kernel
theorem dL_law_0 : decode cL_law 0 = .ok (.new 8, 3) := by decide +kernel
theorem dL_law_3 : decode cL_law 3 = .ok (.dup, 1) := by decide +kernel
theorem dL_law_4 : decode cL_law 4 = .ok (.invokespecial 82, 3) := by decide +kernel
theorem dL_law_7 : decode cL_law 7 = .ok (.astore_n 1, 1) := by decide +kernel
theorem dL_law_8 : decode cL_law 8 = .ok (.new 83, 3) := by decide +kernel
theorem dL_law_11 : decode cL_law 11 = .ok (.dup, 1) := by decide +kernel
theorem dL_law_12 : decode cL_law 12 = .ok (.invokespecial 85, 3) := by decide +kernel
theorem dL_law_15 : decode cL_law 15 = .ok (.astore_n 2, 1) := by decide +kernel
theorem dL_law_16 : decode cL_law 16 = .ok (.iconst 1, 1) := by decide +kernel
theorem dL_law_17 : decode cL_law 17 = .ok (.newarray .long, 2) := by decide +kernel
theorem dL_law_19 : decode cL_law 19 = .ok (.astore_n 3, 1) := by decide +kernel
theorem dL_law_20 : decode cL_law 20 = .ok (.iconst 0, 1) := by decide +kernel
theorem dL_law_21 : decode cL_law 21 = .ok (.istore 4, 2) := by decide +kernel
theorem dL_law_23 : decode cL_law 23 = .ok (.iload 4, 2) := by decide +kernel
theorem dL_law_25 : decode cL_law 25 = .ok (.aload_n 0, 1) := by decide +kernel
theorem dL_law_26 : decode cL_law 26 = .ok (.arraylength, 1) := by decide +kernel
theorem dL_law_27 : decode cL_law 27 = .ok (.iconst 3, 1) := by decide +kernel
theorem dL_law_28 : decode cL_law 28 = .ok (.isub, 1) := by decide +kernel
theorem dL_law_29 : decode cL_law 29 = .ok (.if_icmp .gt 1556, 3) := by decide +kernel
theorem dL_law_32 : decode cL_law 32 = .ok (.aload_n 0, 1) := by decide +kernel
theorem dL_law_33 : decode cL_law 33 = .ok (.iload 4, 2) := by decide +kernel
theorem dL_law_35 : decode cL_law 35 = .ok (.iaload, 1) := by decide +kernel
theorem dL_law_36 : decode cL_law 36 = .ok (.bipush 31, 2) := by decide +kernel
theorem dL_law_38 : decode cL_law 38 = .ok (.iand, 1) := by decide +kernel
theorem dL_law_39 : decode cL_law 39 = .ok (.tableswitch 1540 0 28 #[129, 204, 279, 354, 429, 485, 541, 554, 610, 666, 722, 778, 846, 859, 915, 971, 1027, 1083, 1096, 1152, 1177, 1202, 1227, 1290, 1303, 1359, 1415, 1428, 1484], 129) := by decide +kernel
theorem dL_law_168 : decode cL_law 168 = .ok (.aload_n 1, 1) := by decide +kernel
theorem dL_law_169 : decode cL_law 169 = .ok (.aload_n 0, 1) := by decide +kernel
theorem dL_law_170 : decode cL_law 170 = .ok (.iload 4, 2) := by decide +kernel
theorem dL_law_172 : decode cL_law 172 = .ok (.iconst 1, 1) := by decide +kernel
theorem dL_law_173 : decode cL_law 173 = .ok (.iadd, 1) := by decide +kernel
theorem dL_law_174 : decode cL_law 174 = .ok (.iaload, 1) := by decide +kernel
theorem dL_law_175 : decode cL_law 175 = .ok (.aload_n 0, 1) := by decide +kernel
theorem dL_law_176 : decode cL_law 176 = .ok (.iload 4, 2) := by decide +kernel
theorem dL_law_178 : decode cL_law 178 = .ok (.iconst 2, 1) := by decide +kernel
theorem dL_law_179 : decode cL_law 179 = .ok (.iadd, 1) := by decide +kernel
theorem dL_law_180 : decode cL_law 180 = .ok (.iaload, 1) := by decide +kernel
theorem dL_law_181 : decode cL_law 181 = .ok (.aload_n 3, 1) := by decide +kernel
theorem dL_law_182 : decode cL_law 182 = .ok (.invokestatic 86, 3) := by decide +kernel
theorem dL_law_185 : decode cL_law 185 = .ok (.istore 5, 2) := by decide +kernel
theorem dL_law_187 : decode cL_law 187 = .ok (.aload_n 2, 1) := by decide +kernel
theorem dL_law_188 : decode cL_law 188 = .ok (.aload_n 0, 1) := by decide +kernel
theorem dL_law_189 : decode cL_law 189 = .ok (.iload 4, 2) := by decide +kernel
theorem dL_law_191 : decode cL_law 191 = .ok (.iconst 1, 1) := by decide +kernel
theorem dL_law_192 : decode cL_law 192 = .ok (.iadd, 1) := by decide +kernel
theorem dL_law_193 : decode cL_law 193 = .ok (.iaload, 1) := by decide +kernel
theorem dL_law_194 : decode cL_law 194 = .ok (.aload_n 0, 1) := by decide +kernel
theorem dL_law_195 : decode cL_law 195 = .ok (.iload 4, 2) := by decide +kernel
theorem dL_law_197 : decode cL_law 197 = .ok (.iconst 2, 1) := by decide +kernel
theorem dL_law_198 : decode cL_law 198 = .ok (.iadd, 1) := by decide +kernel
theorem dL_law_199 : decode cL_law 199 = .ok (.iaload, 1) := by decide +kernel
theorem dL_law_200 : decode cL_law 200 = .ok (.invokevirtual 91, 3) := by decide +kernel
theorem dL_law_203 : decode cL_law 203 = .ok (.istore 6, 2) := by decide +kernel
theorem dL_law_205 : decode cL_law 205 = .ok (.aload_n 2, 1) := by decide +kernel
theorem dL_law_206 : decode cL_law 206 = .ok (.invokevirtual 92, 3) := by decide +kernel
theorem dL_law_209 : decode cL_law 209 = .ok (.iload 5, 2) := by decide +kernel
theorem dL_law_211 : decode cL_law 211 = .ok (.if_icmp .eq 5, 3) := by decide +kernel
theorem dL_law_214 : decode cL_law 214 = .ok (.iconst 0, 1) := by decide +kernel
theorem dL_law_215 : decode cL_law 215 = .ok (.ireturn, 1) := by decide +kernel
theorem dL_law_216 : decode cL_law 216 = .ok (.iload 5, 2) := by decide +kernel
theorem dL_law_218 : decode cL_law 218 = .ok (.ifCond .ne 22, 3) := by decide +kernel
theorem dL_law_221 : decode cL_law 221 = .ok (.aload_n 3, 1) := by decide +kernel
theorem dL_law_222 : decode cL_law 222 = .ok (.iconst 0, 1) := by decide +kernel
theorem dL_law_223 : decode cL_law 223 = .ok (.laload, 1) := by decide +kernel
theorem dL_law_224 : decode cL_law 224 = .ok (.iload 6, 2) := by decide +kernel
theorem dL_law_226 : decode cL_law 226 = .ok (.ifCond .eq 7, 3) := by decide +kernel
theorem dL_law_229 : decode cL_law 229 = .ok (.lconst 1, 1) := by decide +kernel
theorem dL_law_230 : decode cL_law 230 = .ok (.goto 4, 3) := by decide +kernel
theorem dL_law_233 : decode cL_law 233 = .ok (.lconst 0, 1) := by decide +kernel
theorem dL_law_234 : decode cL_law 234 = .ok (.lcmp, 1) := by decide +kernel
theorem dL_law_235 : decode cL_law 235 = .ok (.ifCond .eq 5, 3) := by decide +kernel
theorem dL_law_238 : decode cL_law 238 = .ok (.iconst 0, 1) := by decide +kernel
theorem dL_law_239 : decode cL_law 239 = .ok (.ireturn, 1) := by decide +kernel
theorem dL_law_240 : decode cL_law 240 = .ok (.goto 1339, 3) := by decide +kernel
theorem dL_law_243 : decode cL_law 243 = .ok (.aload_n 1, 1) := by decide +kernel
theorem dL_law_244 : decode cL_law 244 = .ok (.aload_n 0, 1) := by decide +kernel
theorem dL_law_245 : decode cL_law 245 = .ok (.iload 4, 2) := by decide +kernel
theorem dL_law_247 : decode cL_law 247 = .ok (.iconst 1, 1) := by decide +kernel
theorem dL_law_248 : decode cL_law 248 = .ok (.iadd, 1) := by decide +kernel
theorem dL_law_249 : decode cL_law 249 = .ok (.iaload, 1) := by decide +kernel
theorem dL_law_250 : decode cL_law 250 = .ok (.aload_n 0, 1) := by decide +kernel
theorem dL_law_251 : decode cL_law 251 = .ok (.iload 4, 2) := by decide +kernel
theorem dL_law_253 : decode cL_law 253 = .ok (.iconst 2, 1) := by decide +kernel
theorem dL_law_254 : decode cL_law 254 = .ok (.iadd, 1) := by decide +kernel
theorem dL_law_255 : decode cL_law 255 = .ok (.iaload, 1) := by decide +kernel
theorem dL_law_256 : decode cL_law 256 = .ok (.aload_n 3, 1) := by decide +kernel
theorem dL_law_257 : decode cL_law 257 = .ok (.invokestatic 96, 3) := by decide +kernel
theorem dL_law_260 : decode cL_law 260 = .ok (.istore 5, 2) := by decide +kernel
theorem dL_law_262 : decode cL_law 262 = .ok (.aload_n 2, 1) := by decide +kernel
theorem dL_law_263 : decode cL_law 263 = .ok (.aload_n 0, 1) := by decide +kernel
theorem dL_law_264 : decode cL_law 264 = .ok (.iload 4, 2) := by decide +kernel
theorem dL_law_266 : decode cL_law 266 = .ok (.iconst 1, 1) := by decide +kernel
theorem dL_law_267 : decode cL_law 267 = .ok (.iadd, 1) := by decide +kernel
theorem dL_law_268 : decode cL_law 268 = .ok (.iaload, 1) := by decide +kernel
theorem dL_law_269 : decode cL_law 269 = .ok (.aload_n 0, 1) := by decide +kernel
theorem dL_law_270 : decode cL_law 270 = .ok (.iload 4, 2) := by decide +kernel
theorem dL_law_272 : decode cL_law 272 = .ok (.iconst 2, 1) := by decide +kernel
theorem dL_law_273 : decode cL_law 273 = .ok (.iadd, 1) := by decide +kernel
theorem dL_law_274 : decode cL_law 274 = .ok (.iaload, 1) := by decide +kernel
theorem dL_law_275 : decode cL_law 275 = .ok (.invokevirtual 98, 3) := by decide +kernel
theorem dL_law_278 : decode cL_law 278 = .ok (.istore 6, 2) := by decide +kernel
theorem dL_law_280 : decode cL_law 280 = .ok (.aload_n 2, 1) := by decide +kernel
theorem dL_law_281 : decode cL_law 281 = .ok (.invokevirtual 92, 3) := by decide +kernel
theorem dL_law_284 : decode cL_law 284 = .ok (.iload 5, 2) := by decide +kernel
theorem dL_law_286 : decode cL_law 286 = .ok (.if_icmp .eq 5, 3) := by decide +kernel
theorem dL_law_289 : decode cL_law 289 = .ok (.iconst 0, 1) := by decide +kernel
theorem dL_law_290 : decode cL_law 290 = .ok (.ireturn, 1) := by decide +kernel
theorem dL_law_291 : decode cL_law 291 = .ok (.iload 5, 2) := by decide +kernel
theorem dL_law_293 : decode cL_law 293 = .ok (.ifCond .ne 22, 3) := by decide +kernel
theorem dL_law_296 : decode cL_law 296 = .ok (.aload_n 3, 1) := by decide +kernel
theorem dL_law_297 : decode cL_law 297 = .ok (.iconst 0, 1) := by decide +kernel
theorem dL_law_298 : decode cL_law 298 = .ok (.laload, 1) := by decide +kernel
theorem dL_law_299 : decode cL_law 299 = .ok (.iload 6, 2) := by decide +kernel
theorem dL_law_301 : decode cL_law 301 = .ok (.ifCond .eq 7, 3) := by decide +kernel
theorem dL_law_304 : decode cL_law 304 = .ok (.lconst 1, 1) := by decide +kernel
theorem dL_law_305 : decode cL_law 305 = .ok (.goto 4, 3) := by decide +kernel
theorem dL_law_308 : decode cL_law 308 = .ok (.lconst 0, 1) := by decide +kernel
theorem dL_law_309 : decode cL_law 309 = .ok (.lcmp, 1) := by decide +kernel
theorem dL_law_310 : decode cL_law 310 = .ok (.ifCond .eq 5, 3) := by decide +kernel
theorem dL_law_313 : decode cL_law 313 = .ok (.iconst 0, 1) := by decide +kernel
theorem dL_law_314 : decode cL_law 314 = .ok (.ireturn, 1) := by decide +kernel
theorem dL_law_315 : decode cL_law 315 = .ok (.goto 1264, 3) := by decide +kernel
theorem dL_law_318 : decode cL_law 318 = .ok (.aload_n 1, 1) := by decide +kernel
theorem dL_law_319 : decode cL_law 319 = .ok (.aload_n 0, 1) := by decide +kernel
theorem dL_law_320 : decode cL_law 320 = .ok (.iload 4, 2) := by decide +kernel
theorem dL_law_322 : decode cL_law 322 = .ok (.iconst 1, 1) := by decide +kernel
theorem dL_law_323 : decode cL_law 323 = .ok (.iadd, 1) := by decide +kernel
theorem dL_law_324 : decode cL_law 324 = .ok (.iaload, 1) := by decide +kernel
theorem dL_law_325 : decode cL_law 325 = .ok (.aload_n 0, 1) := by decide +kernel
theorem dL_law_326 : decode cL_law 326 = .ok (.iload 4, 2) := by decide +kernel
theorem dL_law_328 : decode cL_law 328 = .ok (.iconst 2, 1) := by decide +kernel
theorem dL_law_329 : decode cL_law 329 = .ok (.iadd, 1) := by decide +kernel
theorem dL_law_330 : decode cL_law 330 = .ok (.iaload, 1) := by decide +kernel
theorem dL_law_331 : decode cL_law 331 = .ok (.aload_n 3, 1) := by decide +kernel
theorem dL_law_332 : decode cL_law 332 = .ok (.invokestatic 99, 3) := by decide +kernel
theorem dL_law_335 : decode cL_law 335 = .ok (.istore 5, 2) := by decide +kernel
theorem dL_law_337 : decode cL_law 337 = .ok (.aload_n 2, 1) := by decide +kernel
theorem dL_law_338 : decode cL_law 338 = .ok (.aload_n 0, 1) := by decide +kernel
theorem dL_law_339 : decode cL_law 339 = .ok (.iload 4, 2) := by decide +kernel
theorem dL_law_341 : decode cL_law 341 = .ok (.iconst 1, 1) := by decide +kernel
theorem dL_law_342 : decode cL_law 342 = .ok (.iadd, 1) := by decide +kernel
theorem dL_law_343 : decode cL_law 343 = .ok (.iaload, 1) := by decide +kernel
theorem dL_law_344 : decode cL_law 344 = .ok (.aload_n 0, 1) := by decide +kernel
theorem dL_law_345 : decode cL_law 345 = .ok (.iload 4, 2) := by decide +kernel
theorem dL_law_347 : decode cL_law 347 = .ok (.iconst 2, 1) := by decide +kernel
theorem dL_law_348 : decode cL_law 348 = .ok (.iadd, 1) := by decide +kernel
theorem dL_law_349 : decode cL_law 349 = .ok (.iaload, 1) := by decide +kernel
theorem dL_law_350 : decode cL_law 350 = .ok (.invokevirtual 101, 3) := by decide +kernel
theorem dL_law_353 : decode cL_law 353 = .ok (.istore 6, 2) := by decide +kernel
theorem dL_law_355 : decode cL_law 355 = .ok (.aload_n 2, 1) := by decide +kernel
theorem dL_law_356 : decode cL_law 356 = .ok (.invokevirtual 92, 3) := by decide +kernel
theorem dL_law_359 : decode cL_law 359 = .ok (.iload 5, 2) := by decide +kernel
theorem dL_law_361 : decode cL_law 361 = .ok (.if_icmp .eq 5, 3) := by decide +kernel
theorem dL_law_364 : decode cL_law 364 = .ok (.iconst 0, 1) := by decide +kernel
theorem dL_law_365 : decode cL_law 365 = .ok (.ireturn, 1) := by decide +kernel
theorem dL_law_366 : decode cL_law 366 = .ok (.iload 5, 2) := by decide +kernel
theorem dL_law_368 : decode cL_law 368 = .ok (.ifCond .ne 22, 3) := by decide +kernel
theorem dL_law_371 : decode cL_law 371 = .ok (.aload_n 3, 1) := by decide +kernel
theorem dL_law_372 : decode cL_law 372 = .ok (.iconst 0, 1) := by decide +kernel
theorem dL_law_373 : decode cL_law 373 = .ok (.laload, 1) := by decide +kernel
theorem dL_law_374 : decode cL_law 374 = .ok (.iload 6, 2) := by decide +kernel
theorem dL_law_376 : decode cL_law 376 = .ok (.ifCond .eq 7, 3) := by decide +kernel
theorem dL_law_379 : decode cL_law 379 = .ok (.lconst 1, 1) := by decide +kernel
theorem dL_law_380 : decode cL_law 380 = .ok (.goto 4, 3) := by decide +kernel
theorem dL_law_383 : decode cL_law 383 = .ok (.lconst 0, 1) := by decide +kernel
theorem dL_law_384 : decode cL_law 384 = .ok (.lcmp, 1) := by decide +kernel
theorem dL_law_385 : decode cL_law 385 = .ok (.ifCond .eq 5, 3) := by decide +kernel
theorem dL_law_388 : decode cL_law 388 = .ok (.iconst 0, 1) := by decide +kernel
theorem dL_law_389 : decode cL_law 389 = .ok (.ireturn, 1) := by decide +kernel
theorem dL_law_390 : decode cL_law 390 = .ok (.goto 1189, 3) := by decide +kernel
theorem dL_law_393 : decode cL_law 393 = .ok (.aload_n 1, 1) := by decide +kernel
theorem dL_law_394 : decode cL_law 394 = .ok (.aload_n 0, 1) := by decide +kernel
theorem dL_law_395 : decode cL_law 395 = .ok (.iload 4, 2) := by decide +kernel
theorem dL_law_397 : decode cL_law 397 = .ok (.iconst 1, 1) := by decide +kernel
theorem dL_law_398 : decode cL_law 398 = .ok (.iadd, 1) := by decide +kernel
theorem dL_law_399 : decode cL_law 399 = .ok (.iaload, 1) := by decide +kernel
theorem dL_law_400 : decode cL_law 400 = .ok (.aload_n 0, 1) := by decide +kernel
theorem dL_law_401 : decode cL_law 401 = .ok (.iload 4, 2) := by decide +kernel
theorem dL_law_403 : decode cL_law 403 = .ok (.iconst 2, 1) := by decide +kernel
theorem dL_law_404 : decode cL_law 404 = .ok (.iadd, 1) := by decide +kernel
theorem dL_law_405 : decode cL_law 405 = .ok (.iaload, 1) := by decide +kernel
theorem dL_law_406 : decode cL_law 406 = .ok (.aload_n 3, 1) := by decide +kernel
theorem dL_law_407 : decode cL_law 407 = .ok (.invokestatic 102, 3) := by decide +kernel
theorem dL_law_410 : decode cL_law 410 = .ok (.istore 5, 2) := by decide +kernel
theorem dL_law_412 : decode cL_law 412 = .ok (.aload_n 2, 1) := by decide +kernel
theorem dL_law_413 : decode cL_law 413 = .ok (.aload_n 0, 1) := by decide +kernel
theorem dL_law_414 : decode cL_law 414 = .ok (.iload 4, 2) := by decide +kernel
theorem dL_law_416 : decode cL_law 416 = .ok (.iconst 1, 1) := by decide +kernel
theorem dL_law_417 : decode cL_law 417 = .ok (.iadd, 1) := by decide +kernel
theorem dL_law_418 : decode cL_law 418 = .ok (.iaload, 1) := by decide +kernel
theorem dL_law_419 : decode cL_law 419 = .ok (.aload_n 0, 1) := by decide +kernel
theorem dL_law_420 : decode cL_law 420 = .ok (.iload 4, 2) := by decide +kernel
theorem dL_law_422 : decode cL_law 422 = .ok (.iconst 2, 1) := by decide +kernel
theorem dL_law_423 : decode cL_law 423 = .ok (.iadd, 1) := by decide +kernel
theorem dL_law_424 : decode cL_law 424 = .ok (.iaload, 1) := by decide +kernel
theorem dL_law_425 : decode cL_law 425 = .ok (.invokevirtual 104, 3) := by decide +kernel
theorem dL_law_428 : decode cL_law 428 = .ok (.istore 6, 2) := by decide +kernel
theorem dL_law_430 : decode cL_law 430 = .ok (.aload_n 2, 1) := by decide +kernel
theorem dL_law_431 : decode cL_law 431 = .ok (.invokevirtual 92, 3) := by decide +kernel
theorem dL_law_434 : decode cL_law 434 = .ok (.iload 5, 2) := by decide +kernel
theorem dL_law_436 : decode cL_law 436 = .ok (.if_icmp .eq 5, 3) := by decide +kernel
theorem dL_law_439 : decode cL_law 439 = .ok (.iconst 0, 1) := by decide +kernel
theorem dL_law_440 : decode cL_law 440 = .ok (.ireturn, 1) := by decide +kernel
theorem dL_law_441 : decode cL_law 441 = .ok (.iload 5, 2) := by decide +kernel
theorem dL_law_443 : decode cL_law 443 = .ok (.ifCond .ne 22, 3) := by decide +kernel
theorem dL_law_446 : decode cL_law 446 = .ok (.aload_n 3, 1) := by decide +kernel
theorem dL_law_447 : decode cL_law 447 = .ok (.iconst 0, 1) := by decide +kernel
theorem dL_law_448 : decode cL_law 448 = .ok (.laload, 1) := by decide +kernel
theorem dL_law_449 : decode cL_law 449 = .ok (.iload 6, 2) := by decide +kernel
theorem dL_law_451 : decode cL_law 451 = .ok (.ifCond .eq 7, 3) := by decide +kernel
theorem dL_law_454 : decode cL_law 454 = .ok (.lconst 1, 1) := by decide +kernel
theorem dL_law_455 : decode cL_law 455 = .ok (.goto 4, 3) := by decide +kernel
theorem dL_law_458 : decode cL_law 458 = .ok (.lconst 0, 1) := by decide +kernel
theorem dL_law_459 : decode cL_law 459 = .ok (.lcmp, 1) := by decide +kernel
theorem dL_law_460 : decode cL_law 460 = .ok (.ifCond .eq 5, 3) := by decide +kernel
theorem dL_law_463 : decode cL_law 463 = .ok (.iconst 0, 1) := by decide +kernel
theorem dL_law_464 : decode cL_law 464 = .ok (.ireturn, 1) := by decide +kernel
theorem dL_law_465 : decode cL_law 465 = .ok (.goto 1114, 3) := by decide +kernel
theorem dL_law_468 : decode cL_law 468 = .ok (.aload_n 1, 1) := by decide +kernel
theorem dL_law_469 : decode cL_law 469 = .ok (.aload_n 0, 1) := by decide +kernel
theorem dL_law_470 : decode cL_law 470 = .ok (.iload 4, 2) := by decide +kernel
theorem dL_law_472 : decode cL_law 472 = .ok (.iconst 1, 1) := by decide +kernel
theorem dL_law_473 : decode cL_law 473 = .ok (.iadd, 1) := by decide +kernel
theorem dL_law_474 : decode cL_law 474 = .ok (.iaload, 1) := by decide +kernel
theorem dL_law_475 : decode cL_law 475 = .ok (.aload_n 3, 1) := by decide +kernel
theorem dL_law_476 : decode cL_law 476 = .ok (.invokestatic 105, 3) := by decide +kernel
theorem dL_law_479 : decode cL_law 479 = .ok (.istore 5, 2) := by decide +kernel
theorem dL_law_481 : decode cL_law 481 = .ok (.aload_n 2, 1) := by decide +kernel
theorem dL_law_482 : decode cL_law 482 = .ok (.aload_n 0, 1) := by decide +kernel
theorem dL_law_483 : decode cL_law 483 = .ok (.iload 4, 2) := by decide +kernel
theorem dL_law_485 : decode cL_law 485 = .ok (.iconst 1, 1) := by decide +kernel
theorem dL_law_486 : decode cL_law 486 = .ok (.iadd, 1) := by decide +kernel
theorem dL_law_487 : decode cL_law 487 = .ok (.iaload, 1) := by decide +kernel
theorem dL_law_488 : decode cL_law 488 = .ok (.invokevirtual 108, 3) := by decide +kernel
theorem dL_law_491 : decode cL_law 491 = .ok (.istore 6, 2) := by decide +kernel
theorem dL_law_493 : decode cL_law 493 = .ok (.aload_n 2, 1) := by decide +kernel
theorem dL_law_494 : decode cL_law 494 = .ok (.invokevirtual 92, 3) := by decide +kernel
theorem dL_law_497 : decode cL_law 497 = .ok (.iload 5, 2) := by decide +kernel
theorem dL_law_499 : decode cL_law 499 = .ok (.if_icmp .eq 5, 3) := by decide +kernel
theorem dL_law_502 : decode cL_law 502 = .ok (.iconst 0, 1) := by decide +kernel
theorem dL_law_503 : decode cL_law 503 = .ok (.ireturn, 1) := by decide +kernel
theorem dL_law_504 : decode cL_law 504 = .ok (.iload 5, 2) := by decide +kernel
theorem dL_law_506 : decode cL_law 506 = .ok (.ifCond .ne 15, 3) := by decide +kernel
theorem dL_law_509 : decode cL_law 509 = .ok (.aload_n 3, 1) := by decide +kernel
theorem dL_law_510 : decode cL_law 510 = .ok (.iconst 0, 1) := by decide +kernel
theorem dL_law_511 : decode cL_law 511 = .ok (.laload, 1) := by decide +kernel
theorem dL_law_512 : decode cL_law 512 = .ok (.iload 6, 2) := by decide +kernel
theorem dL_law_514 : decode cL_law 514 = .ok (.i2l, 1) := by decide +kernel
theorem dL_law_515 : decode cL_law 515 = .ok (.lcmp, 1) := by decide +kernel
theorem dL_law_516 : decode cL_law 516 = .ok (.ifCond .eq 5, 3) := by decide +kernel
theorem dL_law_519 : decode cL_law 519 = .ok (.iconst 0, 1) := by decide +kernel
theorem dL_law_520 : decode cL_law 520 = .ok (.ireturn, 1) := by decide +kernel
theorem dL_law_521 : decode cL_law 521 = .ok (.goto 1058, 3) := by decide +kernel
theorem dL_law_524 : decode cL_law 524 = .ok (.aload_n 1, 1) := by decide +kernel
theorem dL_law_525 : decode cL_law 525 = .ok (.aload_n 0, 1) := by decide +kernel
theorem dL_law_526 : decode cL_law 526 = .ok (.iload 4, 2) := by decide +kernel
theorem dL_law_528 : decode cL_law 528 = .ok (.iconst 1, 1) := by decide +kernel
theorem dL_law_529 : decode cL_law 529 = .ok (.iadd, 1) := by decide +kernel
theorem dL_law_530 : decode cL_law 530 = .ok (.iaload, 1) := by decide +kernel
theorem dL_law_531 : decode cL_law 531 = .ok (.aload_n 3, 1) := by decide +kernel
theorem dL_law_532 : decode cL_law 532 = .ok (.invokestatic 109, 3) := by decide +kernel
theorem dL_law_535 : decode cL_law 535 = .ok (.istore 5, 2) := by decide +kernel
theorem dL_law_537 : decode cL_law 537 = .ok (.aload_n 2, 1) := by decide +kernel
theorem dL_law_538 : decode cL_law 538 = .ok (.aload_n 0, 1) := by decide +kernel
theorem dL_law_539 : decode cL_law 539 = .ok (.iload 4, 2) := by decide +kernel
theorem dL_law_541 : decode cL_law 541 = .ok (.iconst 1, 1) := by decide +kernel
theorem dL_law_542 : decode cL_law 542 = .ok (.iadd, 1) := by decide +kernel
theorem dL_law_543 : decode cL_law 543 = .ok (.iaload, 1) := by decide +kernel
theorem dL_law_544 : decode cL_law 544 = .ok (.invokevirtual 111, 3) := by decide +kernel
theorem dL_law_547 : decode cL_law 547 = .ok (.istore 6, 2) := by decide +kernel
theorem dL_law_549 : decode cL_law 549 = .ok (.aload_n 2, 1) := by decide +kernel
theorem dL_law_550 : decode cL_law 550 = .ok (.invokevirtual 92, 3) := by decide +kernel
theorem dL_law_553 : decode cL_law 553 = .ok (.iload 5, 2) := by decide +kernel
theorem dL_law_555 : decode cL_law 555 = .ok (.if_icmp .eq 5, 3) := by decide +kernel
theorem dL_law_558 : decode cL_law 558 = .ok (.iconst 0, 1) := by decide +kernel
theorem dL_law_559 : decode cL_law 559 = .ok (.ireturn, 1) := by decide +kernel
theorem dL_law_560 : decode cL_law 560 = .ok (.iload 5, 2) := by decide +kernel
theorem dL_law_562 : decode cL_law 562 = .ok (.ifCond .ne 15, 3) := by decide +kernel
theorem dL_law_565 : decode cL_law 565 = .ok (.aload_n 3, 1) := by decide +kernel
theorem dL_law_566 : decode cL_law 566 = .ok (.iconst 0, 1) := by decide +kernel
theorem dL_law_567 : decode cL_law 567 = .ok (.laload, 1) := by decide +kernel
theorem dL_law_568 : decode cL_law 568 = .ok (.iload 6, 2) := by decide +kernel
theorem dL_law_570 : decode cL_law 570 = .ok (.i2l, 1) := by decide +kernel
theorem dL_law_571 : decode cL_law 571 = .ok (.lcmp, 1) := by decide +kernel
theorem dL_law_572 : decode cL_law 572 = .ok (.ifCond .eq 5, 3) := by decide +kernel
theorem dL_law_575 : decode cL_law 575 = .ok (.iconst 0, 1) := by decide +kernel
theorem dL_law_576 : decode cL_law 576 = .ok (.ireturn, 1) := by decide +kernel
theorem dL_law_577 : decode cL_law 577 = .ok (.goto 1002, 3) := by decide +kernel
theorem dL_law_580 : decode cL_law 580 = .ok (.aload_n 1, 1) := by decide +kernel
theorem dL_law_581 : decode cL_law 581 = .ok (.invokevirtual 112, 3) := by decide +kernel
theorem dL_law_584 : decode cL_law 584 = .ok (.aload_n 2, 1) := by decide +kernel
theorem dL_law_585 : decode cL_law 585 = .ok (.invokevirtual 115, 3) := by decide +kernel
theorem dL_law_588 : decode cL_law 588 = .ok (.if_icmp .eq 991, 3) := by decide +kernel
theorem dL_law_591 : decode cL_law 591 = .ok (.iconst 0, 1) := by decide +kernel
theorem dL_law_592 : decode cL_law 592 = .ok (.ireturn, 1) := by decide +kernel
theorem dL_law_593 : decode cL_law 593 = .ok (.aload_n 1, 1) := by decide +kernel
theorem dL_law_594 : decode cL_law 594 = .ok (.aload_n 0, 1) := by decide +kernel
theorem dL_law_595 : decode cL_law 595 = .ok (.iload 4, 2) := by decide +kernel
theorem dL_law_597 : decode cL_law 597 = .ok (.iconst 1, 1) := by decide +kernel
theorem dL_law_598 : decode cL_law 598 = .ok (.iadd, 1) := by decide +kernel
theorem dL_law_599 : decode cL_law 599 = .ok (.iaload, 1) := by decide +kernel
theorem dL_law_600 : decode cL_law 600 = .ok (.aload_n 3, 1) := by decide +kernel
theorem dL_law_601 : decode cL_law 601 = .ok (.invokestatic 116, 3) := by decide +kernel
theorem dL_law_604 : decode cL_law 604 = .ok (.istore 5, 2) := by decide +kernel
theorem dL_law_606 : decode cL_law 606 = .ok (.aload_n 2, 1) := by decide +kernel
theorem dL_law_607 : decode cL_law 607 = .ok (.aload_n 0, 1) := by decide +kernel
theorem dL_law_608 : decode cL_law 608 = .ok (.iload 4, 2) := by decide +kernel
theorem dL_law_610 : decode cL_law 610 = .ok (.iconst 1, 1) := by decide +kernel
theorem dL_law_611 : decode cL_law 611 = .ok (.iadd, 1) := by decide +kernel
theorem dL_law_612 : decode cL_law 612 = .ok (.iaload, 1) := by decide +kernel
theorem dL_law_613 : decode cL_law 613 = .ok (.invokevirtual 118, 3) := by decide +kernel
theorem dL_law_616 : decode cL_law 616 = .ok (.istore 6, 2) := by decide +kernel
theorem dL_law_618 : decode cL_law 618 = .ok (.aload_n 2, 1) := by decide +kernel
theorem dL_law_619 : decode cL_law 619 = .ok (.invokevirtual 92, 3) := by decide +kernel
theorem dL_law_622 : decode cL_law 622 = .ok (.iload 5, 2) := by decide +kernel
theorem dL_law_624 : decode cL_law 624 = .ok (.if_icmp .eq 5, 3) := by decide +kernel
theorem dL_law_627 : decode cL_law 627 = .ok (.iconst 0, 1) := by decide +kernel
theorem dL_law_628 : decode cL_law 628 = .ok (.ireturn, 1) := by decide +kernel
theorem dL_law_629 : decode cL_law 629 = .ok (.iload 5, 2) := by decide +kernel
theorem dL_law_631 : decode cL_law 631 = .ok (.ifCond .ne 15, 3) := by decide +kernel
theorem dL_law_634 : decode cL_law 634 = .ok (.aload_n 3, 1) := by decide +kernel
theorem dL_law_635 : decode cL_law 635 = .ok (.iconst 0, 1) := by decide +kernel
theorem dL_law_636 : decode cL_law 636 = .ok (.laload, 1) := by decide +kernel
theorem dL_law_637 : decode cL_law 637 = .ok (.iload 6, 2) := by decide +kernel
theorem dL_law_639 : decode cL_law 639 = .ok (.i2l, 1) := by decide +kernel
theorem dL_law_640 : decode cL_law 640 = .ok (.lcmp, 1) := by decide +kernel
theorem dL_law_641 : decode cL_law 641 = .ok (.ifCond .eq 5, 3) := by decide +kernel
theorem dL_law_644 : decode cL_law 644 = .ok (.iconst 0, 1) := by decide +kernel
theorem dL_law_645 : decode cL_law 645 = .ok (.ireturn, 1) := by decide +kernel
theorem dL_law_646 : decode cL_law 646 = .ok (.goto 933, 3) := by decide +kernel
theorem dL_law_649 : decode cL_law 649 = .ok (.aload_n 1, 1) := by decide +kernel
theorem dL_law_650 : decode cL_law 650 = .ok (.aload_n 0, 1) := by decide +kernel
theorem dL_law_651 : decode cL_law 651 = .ok (.iload 4, 2) := by decide +kernel
theorem dL_law_653 : decode cL_law 653 = .ok (.iconst 1, 1) := by decide +kernel
theorem dL_law_654 : decode cL_law 654 = .ok (.iadd, 1) := by decide +kernel
theorem dL_law_655 : decode cL_law 655 = .ok (.iaload, 1) := by decide +kernel
theorem dL_law_656 : decode cL_law 656 = .ok (.aload_n 3, 1) := by decide +kernel
theorem dL_law_657 : decode cL_law 657 = .ok (.invokestatic 119, 3) := by decide +kernel
theorem dL_law_660 : decode cL_law 660 = .ok (.istore 5, 2) := by decide +kernel
theorem dL_law_662 : decode cL_law 662 = .ok (.aload_n 2, 1) := by decide +kernel
theorem dL_law_663 : decode cL_law 663 = .ok (.aload_n 0, 1) := by decide +kernel
theorem dL_law_664 : decode cL_law 664 = .ok (.iload 4, 2) := by decide +kernel
theorem dL_law_666 : decode cL_law 666 = .ok (.iconst 1, 1) := by decide +kernel
theorem dL_law_667 : decode cL_law 667 = .ok (.iadd, 1) := by decide +kernel
theorem dL_law_668 : decode cL_law 668 = .ok (.iaload, 1) := by decide +kernel
theorem dL_law_669 : decode cL_law 669 = .ok (.invokevirtual 121, 3) := by decide +kernel
theorem dL_law_672 : decode cL_law 672 = .ok (.istore 6, 2) := by decide +kernel
theorem dL_law_674 : decode cL_law 674 = .ok (.aload_n 2, 1) := by decide +kernel
theorem dL_law_675 : decode cL_law 675 = .ok (.invokevirtual 92, 3) := by decide +kernel
theorem dL_law_678 : decode cL_law 678 = .ok (.iload 5, 2) := by decide +kernel
theorem dL_law_680 : decode cL_law 680 = .ok (.if_icmp .eq 5, 3) := by decide +kernel
theorem dL_law_683 : decode cL_law 683 = .ok (.iconst 0, 1) := by decide +kernel
theorem dL_law_684 : decode cL_law 684 = .ok (.ireturn, 1) := by decide +kernel
theorem dL_law_685 : decode cL_law 685 = .ok (.iload 5, 2) := by decide +kernel
theorem dL_law_687 : decode cL_law 687 = .ok (.ifCond .ne 15, 3) := by decide +kernel
theorem dL_law_690 : decode cL_law 690 = .ok (.aload_n 3, 1) := by decide +kernel
theorem dL_law_691 : decode cL_law 691 = .ok (.iconst 0, 1) := by decide +kernel
theorem dL_law_692 : decode cL_law 692 = .ok (.laload, 1) := by decide +kernel
theorem dL_law_693 : decode cL_law 693 = .ok (.iload 6, 2) := by decide +kernel
theorem dL_law_695 : decode cL_law 695 = .ok (.i2l, 1) := by decide +kernel
theorem dL_law_696 : decode cL_law 696 = .ok (.lcmp, 1) := by decide +kernel
theorem dL_law_697 : decode cL_law 697 = .ok (.ifCond .eq 5, 3) := by decide +kernel
theorem dL_law_700 : decode cL_law 700 = .ok (.iconst 0, 1) := by decide +kernel
theorem dL_law_701 : decode cL_law 701 = .ok (.ireturn, 1) := by decide +kernel
theorem dL_law_702 : decode cL_law 702 = .ok (.goto 877, 3) := by decide +kernel
theorem dL_law_705 : decode cL_law 705 = .ok (.aload_n 1, 1) := by decide +kernel
theorem dL_law_706 : decode cL_law 706 = .ok (.aload_n 0, 1) := by decide +kernel
theorem dL_law_707 : decode cL_law 707 = .ok (.iload 4, 2) := by decide +kernel
theorem dL_law_709 : decode cL_law 709 = .ok (.iconst 1, 1) := by decide +kernel
theorem dL_law_710 : decode cL_law 710 = .ok (.iadd, 1) := by decide +kernel
theorem dL_law_711 : decode cL_law 711 = .ok (.iaload, 1) := by decide +kernel
theorem dL_law_712 : decode cL_law 712 = .ok (.aload_n 3, 1) := by decide +kernel
theorem dL_law_713 : decode cL_law 713 = .ok (.invokestatic 122, 3) := by decide +kernel
theorem dL_law_716 : decode cL_law 716 = .ok (.istore 5, 2) := by decide +kernel
theorem dL_law_718 : decode cL_law 718 = .ok (.aload_n 2, 1) := by decide +kernel
theorem dL_law_719 : decode cL_law 719 = .ok (.aload_n 0, 1) := by decide +kernel
theorem dL_law_720 : decode cL_law 720 = .ok (.iload 4, 2) := by decide +kernel
theorem dL_law_722 : decode cL_law 722 = .ok (.iconst 1, 1) := by decide +kernel
theorem dL_law_723 : decode cL_law 723 = .ok (.iadd, 1) := by decide +kernel
theorem dL_law_724 : decode cL_law 724 = .ok (.iaload, 1) := by decide +kernel
theorem dL_law_725 : decode cL_law 725 = .ok (.invokevirtual 124, 3) := by decide +kernel
theorem dL_law_728 : decode cL_law 728 = .ok (.istore 6, 2) := by decide +kernel
theorem dL_law_730 : decode cL_law 730 = .ok (.aload_n 2, 1) := by decide +kernel
theorem dL_law_731 : decode cL_law 731 = .ok (.invokevirtual 92, 3) := by decide +kernel
theorem dL_law_734 : decode cL_law 734 = .ok (.iload 5, 2) := by decide +kernel
theorem dL_law_736 : decode cL_law 736 = .ok (.if_icmp .eq 5, 3) := by decide +kernel
theorem dL_law_739 : decode cL_law 739 = .ok (.iconst 0, 1) := by decide +kernel
theorem dL_law_740 : decode cL_law 740 = .ok (.ireturn, 1) := by decide +kernel
theorem dL_law_741 : decode cL_law 741 = .ok (.iload 5, 2) := by decide +kernel
theorem dL_law_743 : decode cL_law 743 = .ok (.ifCond .ne 15, 3) := by decide +kernel
theorem dL_law_746 : decode cL_law 746 = .ok (.aload_n 3, 1) := by decide +kernel
theorem dL_law_747 : decode cL_law 747 = .ok (.iconst 0, 1) := by decide +kernel
theorem dL_law_748 : decode cL_law 748 = .ok (.laload, 1) := by decide +kernel
theorem dL_law_749 : decode cL_law 749 = .ok (.iload 6, 2) := by decide +kernel
theorem dL_law_751 : decode cL_law 751 = .ok (.i2l, 1) := by decide +kernel
theorem dL_law_752 : decode cL_law 752 = .ok (.lcmp, 1) := by decide +kernel
theorem dL_law_753 : decode cL_law 753 = .ok (.ifCond .eq 5, 3) := by decide +kernel
theorem dL_law_756 : decode cL_law 756 = .ok (.iconst 0, 1) := by decide +kernel
theorem dL_law_757 : decode cL_law 757 = .ok (.ireturn, 1) := by decide +kernel
theorem dL_law_758 : decode cL_law 758 = .ok (.goto 821, 3) := by decide +kernel
theorem dL_law_761 : decode cL_law 761 = .ok (.aload_n 1, 1) := by decide +kernel
theorem dL_law_762 : decode cL_law 762 = .ok (.aload_n 0, 1) := by decide +kernel
theorem dL_law_763 : decode cL_law 763 = .ok (.iload 4, 2) := by decide +kernel
theorem dL_law_765 : decode cL_law 765 = .ok (.iconst 1, 1) := by decide +kernel
theorem dL_law_766 : decode cL_law 766 = .ok (.iadd, 1) := by decide +kernel
theorem dL_law_767 : decode cL_law 767 = .ok (.iaload, 1) := by decide +kernel
theorem dL_law_768 : decode cL_law 768 = .ok (.aload_n 3, 1) := by decide +kernel
theorem dL_law_769 : decode cL_law 769 = .ok (.invokestatic 125, 3) := by decide +kernel
theorem dL_law_772 : decode cL_law 772 = .ok (.istore 5, 2) := by decide +kernel
theorem dL_law_774 : decode cL_law 774 = .ok (.aload_n 2, 1) := by decide +kernel
theorem dL_law_775 : decode cL_law 775 = .ok (.aload_n 0, 1) := by decide +kernel
theorem dL_law_776 : decode cL_law 776 = .ok (.iload 4, 2) := by decide +kernel
theorem dL_law_778 : decode cL_law 778 = .ok (.iconst 1, 1) := by decide +kernel
theorem dL_law_779 : decode cL_law 779 = .ok (.iadd, 1) := by decide +kernel
theorem dL_law_780 : decode cL_law 780 = .ok (.iaload, 1) := by decide +kernel
theorem dL_law_781 : decode cL_law 781 = .ok (.invokevirtual 127, 3) := by decide +kernel
theorem dL_law_784 : decode cL_law 784 = .ok (.istore 6, 2) := by decide +kernel
theorem dL_law_786 : decode cL_law 786 = .ok (.aload_n 2, 1) := by decide +kernel
theorem dL_law_787 : decode cL_law 787 = .ok (.invokevirtual 92, 3) := by decide +kernel
theorem dL_law_790 : decode cL_law 790 = .ok (.iload 5, 2) := by decide +kernel
theorem dL_law_792 : decode cL_law 792 = .ok (.if_icmp .eq 5, 3) := by decide +kernel
theorem dL_law_795 : decode cL_law 795 = .ok (.iconst 0, 1) := by decide +kernel
theorem dL_law_796 : decode cL_law 796 = .ok (.ireturn, 1) := by decide +kernel
theorem dL_law_797 : decode cL_law 797 = .ok (.iload 5, 2) := by decide +kernel
theorem dL_law_799 : decode cL_law 799 = .ok (.ifCond .ne 15, 3) := by decide +kernel
theorem dL_law_802 : decode cL_law 802 = .ok (.aload_n 3, 1) := by decide +kernel
theorem dL_law_803 : decode cL_law 803 = .ok (.iconst 0, 1) := by decide +kernel
theorem dL_law_804 : decode cL_law 804 = .ok (.laload, 1) := by decide +kernel
theorem dL_law_805 : decode cL_law 805 = .ok (.iload 6, 2) := by decide +kernel
theorem dL_law_807 : decode cL_law 807 = .ok (.i2l, 1) := by decide +kernel
theorem dL_law_808 : decode cL_law 808 = .ok (.lcmp, 1) := by decide +kernel
theorem dL_law_809 : decode cL_law 809 = .ok (.ifCond .eq 5, 3) := by decide +kernel
theorem dL_law_812 : decode cL_law 812 = .ok (.iconst 0, 1) := by decide +kernel
theorem dL_law_813 : decode cL_law 813 = .ok (.ireturn, 1) := by decide +kernel
theorem dL_law_814 : decode cL_law 814 = .ok (.goto 765, 3) := by decide +kernel
theorem dL_law_817 : decode cL_law 817 = .ok (.aload_n 1, 1) := by decide +kernel
theorem dL_law_818 : decode cL_law 818 = .ok (.aload_n 0, 1) := by decide +kernel
theorem dL_law_819 : decode cL_law 819 = .ok (.iload 4, 2) := by decide +kernel
theorem dL_law_821 : decode cL_law 821 = .ok (.iconst 1, 1) := by decide +kernel
theorem dL_law_822 : decode cL_law 822 = .ok (.iadd, 1) := by decide +kernel
theorem dL_law_823 : decode cL_law 823 = .ok (.iaload, 1) := by decide +kernel
theorem dL_law_824 : decode cL_law 824 = .ok (.aload_n 0, 1) := by decide +kernel
theorem dL_law_825 : decode cL_law 825 = .ok (.iload 4, 2) := by decide +kernel
theorem dL_law_827 : decode cL_law 827 = .ok (.iconst 2, 1) := by decide +kernel
theorem dL_law_828 : decode cL_law 828 = .ok (.iadd, 1) := by decide +kernel
theorem dL_law_829 : decode cL_law 829 = .ok (.iaload, 1) := by decide +kernel
theorem dL_law_830 : decode cL_law 830 = .ok (.aload_n 3, 1) := by decide +kernel
theorem dL_law_831 : decode cL_law 831 = .ok (.invokestatic 128, 3) := by decide +kernel
theorem dL_law_834 : decode cL_law 834 = .ok (.istore 5, 2) := by decide +kernel
theorem dL_law_836 : decode cL_law 836 = .ok (.aload_n 2, 1) := by decide +kernel
theorem dL_law_837 : decode cL_law 837 = .ok (.aload_n 0, 1) := by decide +kernel
theorem dL_law_838 : decode cL_law 838 = .ok (.iload 4, 2) := by decide +kernel
theorem dL_law_840 : decode cL_law 840 = .ok (.iconst 1, 1) := by decide +kernel
theorem dL_law_841 : decode cL_law 841 = .ok (.iadd, 1) := by decide +kernel
theorem dL_law_842 : decode cL_law 842 = .ok (.iaload, 1) := by decide +kernel
theorem dL_law_843 : decode cL_law 843 = .ok (.aload_n 0, 1) := by decide +kernel
theorem dL_law_844 : decode cL_law 844 = .ok (.iload 4, 2) := by decide +kernel
theorem dL_law_846 : decode cL_law 846 = .ok (.iconst 2, 1) := by decide +kernel
theorem dL_law_847 : decode cL_law 847 = .ok (.iadd, 1) := by decide +kernel
theorem dL_law_848 : decode cL_law 848 = .ok (.iaload, 1) := by decide +kernel
theorem dL_law_849 : decode cL_law 849 = .ok (.invokevirtual 130, 3) := by decide +kernel
theorem dL_law_852 : decode cL_law 852 = .ok (.istore 6, 2) := by decide +kernel
theorem dL_law_854 : decode cL_law 854 = .ok (.aload_n 2, 1) := by decide +kernel
theorem dL_law_855 : decode cL_law 855 = .ok (.invokevirtual 92, 3) := by decide +kernel
theorem dL_law_858 : decode cL_law 858 = .ok (.iload 5, 2) := by decide +kernel
theorem dL_law_860 : decode cL_law 860 = .ok (.if_icmp .eq 5, 3) := by decide +kernel
theorem dL_law_863 : decode cL_law 863 = .ok (.iconst 0, 1) := by decide +kernel
theorem dL_law_864 : decode cL_law 864 = .ok (.ireturn, 1) := by decide +kernel
theorem dL_law_865 : decode cL_law 865 = .ok (.iload 5, 2) := by decide +kernel
theorem dL_law_867 : decode cL_law 867 = .ok (.ifCond .ne 15, 3) := by decide +kernel
theorem dL_law_870 : decode cL_law 870 = .ok (.aload_n 3, 1) := by decide +kernel
theorem dL_law_871 : decode cL_law 871 = .ok (.iconst 0, 1) := by decide +kernel
theorem dL_law_872 : decode cL_law 872 = .ok (.laload, 1) := by decide +kernel
theorem dL_law_873 : decode cL_law 873 = .ok (.iload 6, 2) := by decide +kernel
theorem dL_law_875 : decode cL_law 875 = .ok (.i2l, 1) := by decide +kernel
theorem dL_law_876 : decode cL_law 876 = .ok (.lcmp, 1) := by decide +kernel
theorem dL_law_877 : decode cL_law 877 = .ok (.ifCond .eq 5, 3) := by decide +kernel
theorem dL_law_880 : decode cL_law 880 = .ok (.iconst 0, 1) := by decide +kernel
theorem dL_law_881 : decode cL_law 881 = .ok (.ireturn, 1) := by decide +kernel
theorem dL_law_882 : decode cL_law 882 = .ok (.goto 697, 3) := by decide +kernel
theorem dL_law_885 : decode cL_law 885 = .ok (.aload_n 1, 1) := by decide +kernel
theorem dL_law_886 : decode cL_law 886 = .ok (.invokevirtual 131, 3) := by decide +kernel
theorem dL_law_889 : decode cL_law 889 = .ok (.aload_n 2, 1) := by decide +kernel
theorem dL_law_890 : decode cL_law 890 = .ok (.invokevirtual 134, 3) := by decide +kernel
theorem dL_law_893 : decode cL_law 893 = .ok (.if_icmp .eq 686, 3) := by decide +kernel
theorem dL_law_896 : decode cL_law 896 = .ok (.iconst 0, 1) := by decide +kernel
theorem dL_law_897 : decode cL_law 897 = .ok (.ireturn, 1) := by decide +kernel
theorem dL_law_898 : decode cL_law 898 = .ok (.aload_n 1, 1) := by decide +kernel
theorem dL_law_899 : decode cL_law 899 = .ok (.aload_n 0, 1) := by decide +kernel
theorem dL_law_900 : decode cL_law 900 = .ok (.iload 4, 2) := by decide +kernel
theorem dL_law_902 : decode cL_law 902 = .ok (.iconst 1, 1) := by decide +kernel
theorem dL_law_903 : decode cL_law 903 = .ok (.iadd, 1) := by decide +kernel
theorem dL_law_904 : decode cL_law 904 = .ok (.iaload, 1) := by decide +kernel
theorem dL_law_905 : decode cL_law 905 = .ok (.aload_n 3, 1) := by decide +kernel
theorem dL_law_906 : decode cL_law 906 = .ok (.invokestatic 135, 3) := by decide +kernel
theorem dL_law_909 : decode cL_law 909 = .ok (.istore 5, 2) := by decide +kernel
theorem dL_law_911 : decode cL_law 911 = .ok (.aload_n 2, 1) := by decide +kernel
theorem dL_law_912 : decode cL_law 912 = .ok (.aload_n 0, 1) := by decide +kernel
theorem dL_law_913 : decode cL_law 913 = .ok (.iload 4, 2) := by decide +kernel
theorem dL_law_915 : decode cL_law 915 = .ok (.iconst 1, 1) := by decide +kernel
theorem dL_law_916 : decode cL_law 916 = .ok (.iadd, 1) := by decide +kernel
theorem dL_law_917 : decode cL_law 917 = .ok (.iaload, 1) := by decide +kernel
theorem dL_law_918 : decode cL_law 918 = .ok (.invokevirtual 137, 3) := by decide +kernel
theorem dL_law_921 : decode cL_law 921 = .ok (.istore 6, 2) := by decide +kernel
theorem dL_law_923 : decode cL_law 923 = .ok (.aload_n 2, 1) := by decide +kernel
theorem dL_law_924 : decode cL_law 924 = .ok (.invokevirtual 92, 3) := by decide +kernel
theorem dL_law_927 : decode cL_law 927 = .ok (.iload 5, 2) := by decide +kernel
theorem dL_law_929 : decode cL_law 929 = .ok (.if_icmp .eq 5, 3) := by decide +kernel
theorem dL_law_932 : decode cL_law 932 = .ok (.iconst 0, 1) := by decide +kernel
theorem dL_law_933 : decode cL_law 933 = .ok (.ireturn, 1) := by decide +kernel
theorem dL_law_934 : decode cL_law 934 = .ok (.iload 5, 2) := by decide +kernel
theorem dL_law_936 : decode cL_law 936 = .ok (.ifCond .ne 15, 3) := by decide +kernel
theorem dL_law_939 : decode cL_law 939 = .ok (.aload_n 3, 1) := by decide +kernel
theorem dL_law_940 : decode cL_law 940 = .ok (.iconst 0, 1) := by decide +kernel
theorem dL_law_941 : decode cL_law 941 = .ok (.laload, 1) := by decide +kernel
theorem dL_law_942 : decode cL_law 942 = .ok (.iload 6, 2) := by decide +kernel
theorem dL_law_944 : decode cL_law 944 = .ok (.i2l, 1) := by decide +kernel
theorem dL_law_945 : decode cL_law 945 = .ok (.lcmp, 1) := by decide +kernel
theorem dL_law_946 : decode cL_law 946 = .ok (.ifCond .eq 5, 3) := by decide +kernel
theorem dL_law_949 : decode cL_law 949 = .ok (.iconst 0, 1) := by decide +kernel
theorem dL_law_950 : decode cL_law 950 = .ok (.ireturn, 1) := by decide +kernel
theorem dL_law_951 : decode cL_law 951 = .ok (.goto 628, 3) := by decide +kernel
theorem dL_law_954 : decode cL_law 954 = .ok (.aload_n 1, 1) := by decide +kernel
theorem dL_law_955 : decode cL_law 955 = .ok (.aload_n 0, 1) := by decide +kernel
theorem dL_law_956 : decode cL_law 956 = .ok (.iload 4, 2) := by decide +kernel
theorem dL_law_958 : decode cL_law 958 = .ok (.iconst 1, 1) := by decide +kernel
theorem dL_law_959 : decode cL_law 959 = .ok (.iadd, 1) := by decide +kernel
theorem dL_law_960 : decode cL_law 960 = .ok (.iaload, 1) := by decide +kernel
theorem dL_law_961 : decode cL_law 961 = .ok (.aload_n 3, 1) := by decide +kernel
theorem dL_law_962 : decode cL_law 962 = .ok (.invokestatic 138, 3) := by decide +kernel
theorem dL_law_965 : decode cL_law 965 = .ok (.istore 5, 2) := by decide +kernel
theorem dL_law_967 : decode cL_law 967 = .ok (.aload_n 2, 1) := by decide +kernel
theorem dL_law_968 : decode cL_law 968 = .ok (.aload_n 0, 1) := by decide +kernel
theorem dL_law_969 : decode cL_law 969 = .ok (.iload 4, 2) := by decide +kernel
theorem dL_law_971 : decode cL_law 971 = .ok (.iconst 1, 1) := by decide +kernel
theorem dL_law_972 : decode cL_law 972 = .ok (.iadd, 1) := by decide +kernel
theorem dL_law_973 : decode cL_law 973 = .ok (.iaload, 1) := by decide +kernel
theorem dL_law_974 : decode cL_law 974 = .ok (.invokevirtual 140, 3) := by decide +kernel
theorem dL_law_977 : decode cL_law 977 = .ok (.istore 6, 2) := by decide +kernel
theorem dL_law_979 : decode cL_law 979 = .ok (.aload_n 2, 1) := by decide +kernel
theorem dL_law_980 : decode cL_law 980 = .ok (.invokevirtual 92, 3) := by decide +kernel
theorem dL_law_983 : decode cL_law 983 = .ok (.iload 5, 2) := by decide +kernel
theorem dL_law_985 : decode cL_law 985 = .ok (.if_icmp .eq 5, 3) := by decide +kernel
theorem dL_law_988 : decode cL_law 988 = .ok (.iconst 0, 1) := by decide +kernel
theorem dL_law_989 : decode cL_law 989 = .ok (.ireturn, 1) := by decide +kernel
theorem dL_law_990 : decode cL_law 990 = .ok (.iload 5, 2) := by decide +kernel
theorem dL_law_992 : decode cL_law 992 = .ok (.ifCond .ne 15, 3) := by decide +kernel
theorem dL_law_995 : decode cL_law 995 = .ok (.aload_n 3, 1) := by decide +kernel
theorem dL_law_996 : decode cL_law 996 = .ok (.iconst 0, 1) := by decide +kernel
theorem dL_law_997 : decode cL_law 997 = .ok (.laload, 1) := by decide +kernel
theorem dL_law_998 : decode cL_law 998 = .ok (.iload 6, 2) := by decide +kernel
theorem dL_law_1000 : decode cL_law 1000 = .ok (.i2l, 1) := by decide +kernel
theorem dL_law_1001 : decode cL_law 1001 = .ok (.lcmp, 1) := by decide +kernel
theorem dL_law_1002 : decode cL_law 1002 = .ok (.ifCond .eq 5, 3) := by decide +kernel
theorem dL_law_1005 : decode cL_law 1005 = .ok (.iconst 0, 1) := by decide +kernel
theorem dL_law_1006 : decode cL_law 1006 = .ok (.ireturn, 1) := by decide +kernel
theorem dL_law_1007 : decode cL_law 1007 = .ok (.goto 572, 3) := by decide +kernel
theorem dL_law_1010 : decode cL_law 1010 = .ok (.aload_n 1, 1) := by decide +kernel
theorem dL_law_1011 : decode cL_law 1011 = .ok (.aload_n 0, 1) := by decide +kernel
theorem dL_law_1012 : decode cL_law 1012 = .ok (.iload 4, 2) := by decide +kernel
theorem dL_law_1014 : decode cL_law 1014 = .ok (.iconst 1, 1) := by decide +kernel
theorem dL_law_1015 : decode cL_law 1015 = .ok (.iadd, 1) := by decide +kernel
theorem dL_law_1016 : decode cL_law 1016 = .ok (.iaload, 1) := by decide +kernel
theorem dL_law_1017 : decode cL_law 1017 = .ok (.aload_n 3, 1) := by decide +kernel
theorem dL_law_1018 : decode cL_law 1018 = .ok (.invokestatic 141, 3) := by decide +kernel
theorem dL_law_1021 : decode cL_law 1021 = .ok (.istore 5, 2) := by decide +kernel
theorem dL_law_1023 : decode cL_law 1023 = .ok (.aload_n 2, 1) := by decide +kernel
theorem dL_law_1024 : decode cL_law 1024 = .ok (.aload_n 0, 1) := by decide +kernel
theorem dL_law_1025 : decode cL_law 1025 = .ok (.iload 4, 2) := by decide +kernel
theorem dL_law_1027 : decode cL_law 1027 = .ok (.iconst 1, 1) := by decide +kernel
theorem dL_law_1028 : decode cL_law 1028 = .ok (.iadd, 1) := by decide +kernel
theorem dL_law_1029 : decode cL_law 1029 = .ok (.iaload, 1) := by decide +kernel
theorem dL_law_1030 : decode cL_law 1030 = .ok (.invokevirtual 143, 3) := by decide +kernel
theorem dL_law_1033 : decode cL_law 1033 = .ok (.istore 6, 2) := by decide +kernel
theorem dL_law_1035 : decode cL_law 1035 = .ok (.aload_n 2, 1) := by decide +kernel
theorem dL_law_1036 : decode cL_law 1036 = .ok (.invokevirtual 92, 3) := by decide +kernel
theorem dL_law_1039 : decode cL_law 1039 = .ok (.iload 5, 2) := by decide +kernel
theorem dL_law_1041 : decode cL_law 1041 = .ok (.if_icmp .eq 5, 3) := by decide +kernel
theorem dL_law_1044 : decode cL_law 1044 = .ok (.iconst 0, 1) := by decide +kernel
theorem dL_law_1045 : decode cL_law 1045 = .ok (.ireturn, 1) := by decide +kernel
theorem dL_law_1046 : decode cL_law 1046 = .ok (.iload 5, 2) := by decide +kernel
theorem dL_law_1048 : decode cL_law 1048 = .ok (.ifCond .ne 15, 3) := by decide +kernel
theorem dL_law_1051 : decode cL_law 1051 = .ok (.aload_n 3, 1) := by decide +kernel
theorem dL_law_1052 : decode cL_law 1052 = .ok (.iconst 0, 1) := by decide +kernel
theorem dL_law_1053 : decode cL_law 1053 = .ok (.laload, 1) := by decide +kernel
theorem dL_law_1054 : decode cL_law 1054 = .ok (.iload 6, 2) := by decide +kernel
theorem dL_law_1056 : decode cL_law 1056 = .ok (.i2l, 1) := by decide +kernel
theorem dL_law_1057 : decode cL_law 1057 = .ok (.lcmp, 1) := by decide +kernel
theorem dL_law_1058 : decode cL_law 1058 = .ok (.ifCond .eq 5, 3) := by decide +kernel
theorem dL_law_1061 : decode cL_law 1061 = .ok (.iconst 0, 1) := by decide +kernel
theorem dL_law_1062 : decode cL_law 1062 = .ok (.ireturn, 1) := by decide +kernel
theorem dL_law_1063 : decode cL_law 1063 = .ok (.goto 516, 3) := by decide +kernel
theorem dL_law_1066 : decode cL_law 1066 = .ok (.aload_n 1, 1) := by decide +kernel
theorem dL_law_1067 : decode cL_law 1067 = .ok (.aload_n 0, 1) := by decide +kernel
theorem dL_law_1068 : decode cL_law 1068 = .ok (.iload 4, 2) := by decide +kernel
theorem dL_law_1070 : decode cL_law 1070 = .ok (.iconst 1, 1) := by decide +kernel
theorem dL_law_1071 : decode cL_law 1071 = .ok (.iadd, 1) := by decide +kernel
theorem dL_law_1072 : decode cL_law 1072 = .ok (.iaload, 1) := by decide +kernel
theorem dL_law_1073 : decode cL_law 1073 = .ok (.aload_n 3, 1) := by decide +kernel
theorem dL_law_1074 : decode cL_law 1074 = .ok (.invokestatic 144, 3) := by decide +kernel
theorem dL_law_1077 : decode cL_law 1077 = .ok (.istore 5, 2) := by decide +kernel
theorem dL_law_1079 : decode cL_law 1079 = .ok (.aload_n 2, 1) := by decide +kernel
theorem dL_law_1080 : decode cL_law 1080 = .ok (.aload_n 0, 1) := by decide +kernel
theorem dL_law_1081 : decode cL_law 1081 = .ok (.iload 4, 2) := by decide +kernel
theorem dL_law_1083 : decode cL_law 1083 = .ok (.iconst 1, 1) := by decide +kernel
theorem dL_law_1084 : decode cL_law 1084 = .ok (.iadd, 1) := by decide +kernel
theorem dL_law_1085 : decode cL_law 1085 = .ok (.iaload, 1) := by decide +kernel
theorem dL_law_1086 : decode cL_law 1086 = .ok (.invokevirtual 146, 3) := by decide +kernel
theorem dL_law_1089 : decode cL_law 1089 = .ok (.istore 6, 2) := by decide +kernel
theorem dL_law_1091 : decode cL_law 1091 = .ok (.aload_n 2, 1) := by decide +kernel
theorem dL_law_1092 : decode cL_law 1092 = .ok (.invokevirtual 92, 3) := by decide +kernel
theorem dL_law_1095 : decode cL_law 1095 = .ok (.iload 5, 2) := by decide +kernel
theorem dL_law_1097 : decode cL_law 1097 = .ok (.if_icmp .eq 5, 3) := by decide +kernel
theorem dL_law_1100 : decode cL_law 1100 = .ok (.iconst 0, 1) := by decide +kernel
theorem dL_law_1101 : decode cL_law 1101 = .ok (.ireturn, 1) := by decide +kernel
theorem dL_law_1102 : decode cL_law 1102 = .ok (.iload 5, 2) := by decide +kernel
theorem dL_law_1104 : decode cL_law 1104 = .ok (.ifCond .ne 15, 3) := by decide +kernel
theorem dL_law_1107 : decode cL_law 1107 = .ok (.aload_n 3, 1) := by decide +kernel
theorem dL_law_1108 : decode cL_law 1108 = .ok (.iconst 0, 1) := by decide +kernel
theorem dL_law_1109 : decode cL_law 1109 = .ok (.laload, 1) := by decide +kernel
theorem dL_law_1110 : decode cL_law 1110 = .ok (.iload 6, 2) := by decide +kernel
theorem dL_law_1112 : decode cL_law 1112 = .ok (.i2l, 1) := by decide +kernel
theorem dL_law_1113 : decode cL_law 1113 = .ok (.lcmp, 1) := by decide +kernel
theorem dL_law_1114 : decode cL_law 1114 = .ok (.ifCond .eq 5, 3) := by decide +kernel
theorem dL_law_1117 : decode cL_law 1117 = .ok (.iconst 0, 1) := by decide +kernel
theorem dL_law_1118 : decode cL_law 1118 = .ok (.ireturn, 1) := by decide +kernel
theorem dL_law_1119 : decode cL_law 1119 = .ok (.goto 460, 3) := by decide +kernel
theorem dL_law_1122 : decode cL_law 1122 = .ok (.aload_n 1, 1) := by decide +kernel
theorem dL_law_1123 : decode cL_law 1123 = .ok (.invokevirtual 147, 3) := by decide +kernel
theorem dL_law_1126 : decode cL_law 1126 = .ok (.aload_n 2, 1) := by decide +kernel
theorem dL_law_1127 : decode cL_law 1127 = .ok (.invokevirtual 150, 3) := by decide +kernel
theorem dL_law_1130 : decode cL_law 1130 = .ok (.if_icmp .eq 449, 3) := by decide +kernel
theorem dL_law_1133 : decode cL_law 1133 = .ok (.iconst 0, 1) := by decide +kernel
theorem dL_law_1134 : decode cL_law 1134 = .ok (.ireturn, 1) := by decide +kernel
theorem dL_law_1135 : decode cL_law 1135 = .ok (.aload_n 1, 1) := by decide +kernel
theorem dL_law_1136 : decode cL_law 1136 = .ok (.aload_n 0, 1) := by decide +kernel
theorem dL_law_1137 : decode cL_law 1137 = .ok (.iload 4, 2) := by decide +kernel
theorem dL_law_1139 : decode cL_law 1139 = .ok (.iconst 1, 1) := by decide +kernel
theorem dL_law_1140 : decode cL_law 1140 = .ok (.iadd, 1) := by decide +kernel
theorem dL_law_1141 : decode cL_law 1141 = .ok (.iaload, 1) := by decide +kernel
theorem dL_law_1142 : decode cL_law 1142 = .ok (.aload_n 3, 1) := by decide +kernel
theorem dL_law_1143 : decode cL_law 1143 = .ok (.invokestatic 151, 3) := by decide +kernel
theorem dL_law_1146 : decode cL_law 1146 = .ok (.istore 5, 2) := by decide +kernel
theorem dL_law_1148 : decode cL_law 1148 = .ok (.aload_n 2, 1) := by decide +kernel
theorem dL_law_1149 : decode cL_law 1149 = .ok (.aload_n 0, 1) := by decide +kernel
theorem dL_law_1150 : decode cL_law 1150 = .ok (.iload 4, 2) := by decide +kernel
theorem dL_law_1152 : decode cL_law 1152 = .ok (.iconst 1, 1) := by decide +kernel
theorem dL_law_1153 : decode cL_law 1153 = .ok (.iadd, 1) := by decide +kernel
theorem dL_law_1154 : decode cL_law 1154 = .ok (.iaload, 1) := by decide +kernel
theorem dL_law_1155 : decode cL_law 1155 = .ok (.invokevirtual 153, 3) := by decide +kernel
theorem dL_law_1158 : decode cL_law 1158 = .ok (.istore 6, 2) := by decide +kernel
theorem dL_law_1160 : decode cL_law 1160 = .ok (.aload_n 2, 1) := by decide +kernel
theorem dL_law_1161 : decode cL_law 1161 = .ok (.invokevirtual 92, 3) := by decide +kernel
theorem dL_law_1164 : decode cL_law 1164 = .ok (.iload 5, 2) := by decide +kernel
theorem dL_law_1166 : decode cL_law 1166 = .ok (.if_icmp .eq 5, 3) := by decide +kernel
theorem dL_law_1169 : decode cL_law 1169 = .ok (.iconst 0, 1) := by decide +kernel
theorem dL_law_1170 : decode cL_law 1170 = .ok (.ireturn, 1) := by decide +kernel
theorem dL_law_1171 : decode cL_law 1171 = .ok (.iload 5, 2) := by decide +kernel
theorem dL_law_1173 : decode cL_law 1173 = .ok (.ifCond .ne 15, 3) := by decide +kernel
theorem dL_law_1176 : decode cL_law 1176 = .ok (.aload_n 3, 1) := by decide +kernel
theorem dL_law_1177 : decode cL_law 1177 = .ok (.iconst 0, 1) := by decide +kernel
theorem dL_law_1178 : decode cL_law 1178 = .ok (.laload, 1) := by decide +kernel
theorem dL_law_1179 : decode cL_law 1179 = .ok (.iload 6, 2) := by decide +kernel
theorem dL_law_1181 : decode cL_law 1181 = .ok (.i2l, 1) := by decide +kernel
theorem dL_law_1182 : decode cL_law 1182 = .ok (.lcmp, 1) := by decide +kernel
theorem dL_law_1183 : decode cL_law 1183 = .ok (.ifCond .eq 5, 3) := by decide +kernel
theorem dL_law_1186 : decode cL_law 1186 = .ok (.iconst 0, 1) := by decide +kernel
theorem dL_law_1187 : decode cL_law 1187 = .ok (.ireturn, 1) := by decide +kernel
theorem dL_law_1188 : decode cL_law 1188 = .ok (.goto 391, 3) := by decide +kernel
theorem dL_law_1191 : decode cL_law 1191 = .ok (.aload_n 1, 1) := by decide +kernel
theorem dL_law_1192 : decode cL_law 1192 = .ok (.aload_n 0, 1) := by decide +kernel
theorem dL_law_1193 : decode cL_law 1193 = .ok (.iload 4, 2) := by decide +kernel
theorem dL_law_1195 : decode cL_law 1195 = .ok (.iconst 1, 1) := by decide +kernel
theorem dL_law_1196 : decode cL_law 1196 = .ok (.iadd, 1) := by decide +kernel
theorem dL_law_1197 : decode cL_law 1197 = .ok (.iaload, 1) := by decide +kernel
theorem dL_law_1198 : decode cL_law 1198 = .ok (.invokevirtual 154, 3) := by decide +kernel
theorem dL_law_1201 : decode cL_law 1201 = .ok (.aload_n 2, 1) := by decide +kernel
theorem dL_law_1202 : decode cL_law 1202 = .ok (.aload_n 0, 1) := by decide +kernel
theorem dL_law_1203 : decode cL_law 1203 = .ok (.iload 4, 2) := by decide +kernel
theorem dL_law_1205 : decode cL_law 1205 = .ok (.iconst 1, 1) := by decide +kernel
theorem dL_law_1206 : decode cL_law 1206 = .ok (.iadd, 1) := by decide +kernel
theorem dL_law_1207 : decode cL_law 1207 = .ok (.iaload, 1) := by decide +kernel
theorem dL_law_1208 : decode cL_law 1208 = .ok (.invokevirtual 157, 3) := by decide +kernel
theorem dL_law_1211 : decode cL_law 1211 = .ok (.if_icmp .eq 368, 3) := by decide +kernel
theorem dL_law_1214 : decode cL_law 1214 = .ok (.iconst 0, 1) := by decide +kernel
theorem dL_law_1215 : decode cL_law 1215 = .ok (.ireturn, 1) := by decide +kernel
theorem dL_law_1216 : decode cL_law 1216 = .ok (.aload_n 1, 1) := by decide +kernel
theorem dL_law_1217 : decode cL_law 1217 = .ok (.aload_n 0, 1) := by decide +kernel
theorem dL_law_1218 : decode cL_law 1218 = .ok (.iload 4, 2) := by decide +kernel
theorem dL_law_1220 : decode cL_law 1220 = .ok (.iconst 1, 1) := by decide +kernel
theorem dL_law_1221 : decode cL_law 1221 = .ok (.iadd, 1) := by decide +kernel
theorem dL_law_1222 : decode cL_law 1222 = .ok (.iaload, 1) := by decide +kernel
theorem dL_law_1223 : decode cL_law 1223 = .ok (.invokevirtual 158, 3) := by decide +kernel
theorem dL_law_1226 : decode cL_law 1226 = .ok (.aload_n 2, 1) := by decide +kernel
theorem dL_law_1227 : decode cL_law 1227 = .ok (.aload_n 0, 1) := by decide +kernel
theorem dL_law_1228 : decode cL_law 1228 = .ok (.iload 4, 2) := by decide +kernel
theorem dL_law_1230 : decode cL_law 1230 = .ok (.iconst 1, 1) := by decide +kernel
theorem dL_law_1231 : decode cL_law 1231 = .ok (.iadd, 1) := by decide +kernel
theorem dL_law_1232 : decode cL_law 1232 = .ok (.iaload, 1) := by decide +kernel
theorem dL_law_1233 : decode cL_law 1233 = .ok (.invokevirtual 161, 3) := by decide +kernel
theorem dL_law_1236 : decode cL_law 1236 = .ok (.if_icmp .eq 343, 3) := by decide +kernel
theorem dL_law_1239 : decode cL_law 1239 = .ok (.iconst 0, 1) := by decide +kernel
theorem dL_law_1240 : decode cL_law 1240 = .ok (.ireturn, 1) := by decide +kernel
theorem dL_law_1241 : decode cL_law 1241 = .ok (.aload_n 1, 1) := by decide +kernel
theorem dL_law_1242 : decode cL_law 1242 = .ok (.aload_n 0, 1) := by decide +kernel
theorem dL_law_1243 : decode cL_law 1243 = .ok (.iload 4, 2) := by decide +kernel
theorem dL_law_1245 : decode cL_law 1245 = .ok (.iconst 1, 1) := by decide +kernel
theorem dL_law_1246 : decode cL_law 1246 = .ok (.iadd, 1) := by decide +kernel
theorem dL_law_1247 : decode cL_law 1247 = .ok (.iaload, 1) := by decide +kernel
theorem dL_law_1248 : decode cL_law 1248 = .ok (.invokevirtual 162, 3) := by decide +kernel
theorem dL_law_1251 : decode cL_law 1251 = .ok (.aload_n 2, 1) := by decide +kernel
theorem dL_law_1252 : decode cL_law 1252 = .ok (.aload_n 0, 1) := by decide +kernel
theorem dL_law_1253 : decode cL_law 1253 = .ok (.iload 4, 2) := by decide +kernel
theorem dL_law_1255 : decode cL_law 1255 = .ok (.iconst 1, 1) := by decide +kernel
theorem dL_law_1256 : decode cL_law 1256 = .ok (.iadd, 1) := by decide +kernel
theorem dL_law_1257 : decode cL_law 1257 = .ok (.iaload, 1) := by decide +kernel
theorem dL_law_1258 : decode cL_law 1258 = .ok (.invokevirtual 165, 3) := by decide +kernel
theorem dL_law_1261 : decode cL_law 1261 = .ok (.if_icmp .eq 318, 3) := by decide +kernel
theorem dL_law_1264 : decode cL_law 1264 = .ok (.iconst 0, 1) := by decide +kernel
theorem dL_law_1265 : decode cL_law 1265 = .ok (.ireturn, 1) := by decide +kernel
theorem dL_law_1266 : decode cL_law 1266 = .ok (.aload_n 1, 1) := by decide +kernel
theorem dL_law_1267 : decode cL_law 1267 = .ok (.aload_n 0, 1) := by decide +kernel
theorem dL_law_1268 : decode cL_law 1268 = .ok (.iload 4, 2) := by decide +kernel
theorem dL_law_1270 : decode cL_law 1270 = .ok (.iconst 1, 1) := by decide +kernel
theorem dL_law_1271 : decode cL_law 1271 = .ok (.iadd, 1) := by decide +kernel
theorem dL_law_1272 : decode cL_law 1272 = .ok (.iaload, 1) := by decide +kernel
theorem dL_law_1273 : decode cL_law 1273 = .ok (.aload_n 3, 1) := by decide +kernel
theorem dL_law_1274 : decode cL_law 1274 = .ok (.invokestatic 166, 3) := by decide +kernel
theorem dL_law_1277 : decode cL_law 1277 = .ok (.istore 5, 2) := by decide +kernel
theorem dL_law_1279 : decode cL_law 1279 = .ok (.aload_n 2, 1) := by decide +kernel
theorem dL_law_1280 : decode cL_law 1280 = .ok (.aload_n 0, 1) := by decide +kernel
theorem dL_law_1281 : decode cL_law 1281 = .ok (.iload 4, 2) := by decide +kernel
theorem dL_law_1283 : decode cL_law 1283 = .ok (.iconst 1, 1) := by decide +kernel
theorem dL_law_1284 : decode cL_law 1284 = .ok (.iadd, 1) := by decide +kernel
theorem dL_law_1285 : decode cL_law 1285 = .ok (.iaload, 1) := by decide +kernel
theorem dL_law_1286 : decode cL_law 1286 = .ok (.invokevirtual 168, 3) := by decide +kernel
theorem dL_law_1289 : decode cL_law 1289 = .ok (.istore 6, 2) := by decide +kernel
theorem dL_law_1291 : decode cL_law 1291 = .ok (.aload_n 2, 1) := by decide +kernel
theorem dL_law_1292 : decode cL_law 1292 = .ok (.invokevirtual 92, 3) := by decide +kernel
theorem dL_law_1295 : decode cL_law 1295 = .ok (.iload 5, 2) := by decide +kernel
theorem dL_law_1297 : decode cL_law 1297 = .ok (.if_icmp .eq 5, 3) := by decide +kernel
theorem dL_law_1300 : decode cL_law 1300 = .ok (.iconst 0, 1) := by decide +kernel
theorem dL_law_1301 : decode cL_law 1301 = .ok (.ireturn, 1) := by decide +kernel
theorem dL_law_1302 : decode cL_law 1302 = .ok (.iload 5, 2) := by decide +kernel
theorem dL_law_1304 : decode cL_law 1304 = .ok (.ifCond .ne 22, 3) := by decide +kernel
theorem dL_law_1307 : decode cL_law 1307 = .ok (.aload_n 3, 1) := by decide +kernel
theorem dL_law_1308 : decode cL_law 1308 = .ok (.iconst 0, 1) := by decide +kernel
theorem dL_law_1309 : decode cL_law 1309 = .ok (.laload, 1) := by decide +kernel
theorem dL_law_1310 : decode cL_law 1310 = .ok (.iload 6, 2) := by decide +kernel
theorem dL_law_1312 : decode cL_law 1312 = .ok (.ifCond .eq 7, 3) := by decide +kernel
theorem dL_law_1315 : decode cL_law 1315 = .ok (.lconst 1, 1) := by decide +kernel
theorem dL_law_1316 : decode cL_law 1316 = .ok (.goto 4, 3) := by decide +kernel
theorem dL_law_1319 : decode cL_law 1319 = .ok (.lconst 0, 1) := by decide +kernel
theorem dL_law_1320 : decode cL_law 1320 = .ok (.lcmp, 1) := by decide +kernel
theorem dL_law_1321 : decode cL_law 1321 = .ok (.ifCond .eq 5, 3) := by decide +kernel
theorem dL_law_1324 : decode cL_law 1324 = .ok (.iconst 0, 1) := by decide +kernel
theorem dL_law_1325 : decode cL_law 1325 = .ok (.ireturn, 1) := by decide +kernel
theorem dL_law_1326 : decode cL_law 1326 = .ok (.goto 253, 3) := by decide +kernel
theorem dL_law_1329 : decode cL_law 1329 = .ok (.aload_n 1, 1) := by decide +kernel
theorem dL_law_1330 : decode cL_law 1330 = .ok (.invokevirtual 169, 3) := by decide +kernel
theorem dL_law_1333 : decode cL_law 1333 = .ok (.aload_n 2, 1) := by decide +kernel
theorem dL_law_1334 : decode cL_law 1334 = .ok (.invokevirtual 172, 3) := by decide +kernel
theorem dL_law_1337 : decode cL_law 1337 = .ok (.if_icmp .eq 242, 3) := by decide +kernel
theorem dL_law_1340 : decode cL_law 1340 = .ok (.iconst 0, 1) := by decide +kernel
theorem dL_law_1341 : decode cL_law 1341 = .ok (.ireturn, 1) := by decide +kernel
theorem dL_law_1342 : decode cL_law 1342 = .ok (.aload_n 1, 1) := by decide +kernel
theorem dL_law_1343 : decode cL_law 1343 = .ok (.aload_n 0, 1) := by decide +kernel
theorem dL_law_1344 : decode cL_law 1344 = .ok (.iload 4, 2) := by decide +kernel
theorem dL_law_1346 : decode cL_law 1346 = .ok (.iconst 1, 1) := by decide +kernel
theorem dL_law_1347 : decode cL_law 1347 = .ok (.iadd, 1) := by decide +kernel
theorem dL_law_1348 : decode cL_law 1348 = .ok (.iaload, 1) := by decide +kernel
theorem dL_law_1349 : decode cL_law 1349 = .ok (.aload_n 3, 1) := by decide +kernel
theorem dL_law_1350 : decode cL_law 1350 = .ok (.invokestatic 173, 3) := by decide +kernel
theorem dL_law_1353 : decode cL_law 1353 = .ok (.istore 5, 2) := by decide +kernel
theorem dL_law_1355 : decode cL_law 1355 = .ok (.aload_n 2, 1) := by decide +kernel
theorem dL_law_1356 : decode cL_law 1356 = .ok (.aload_n 0, 1) := by decide +kernel
theorem dL_law_1357 : decode cL_law 1357 = .ok (.iload 4, 2) := by decide +kernel
theorem dL_law_1359 : decode cL_law 1359 = .ok (.iconst 1, 1) := by decide +kernel
theorem dL_law_1360 : decode cL_law 1360 = .ok (.iadd, 1) := by decide +kernel
theorem dL_law_1361 : decode cL_law 1361 = .ok (.iaload, 1) := by decide +kernel
theorem dL_law_1362 : decode cL_law 1362 = .ok (.invokevirtual 175, 3) := by decide +kernel
theorem dL_law_1365 : decode cL_law 1365 = .ok (.istore 6, 2) := by decide +kernel
theorem dL_law_1367 : decode cL_law 1367 = .ok (.aload_n 2, 1) := by decide +kernel
theorem dL_law_1368 : decode cL_law 1368 = .ok (.invokevirtual 92, 3) := by decide +kernel
theorem dL_law_1371 : decode cL_law 1371 = .ok (.iload 5, 2) := by decide +kernel
theorem dL_law_1373 : decode cL_law 1373 = .ok (.if_icmp .eq 5, 3) := by decide +kernel
theorem dL_law_1376 : decode cL_law 1376 = .ok (.iconst 0, 1) := by decide +kernel
theorem dL_law_1377 : decode cL_law 1377 = .ok (.ireturn, 1) := by decide +kernel
theorem dL_law_1378 : decode cL_law 1378 = .ok (.iload 5, 2) := by decide +kernel
theorem dL_law_1380 : decode cL_law 1380 = .ok (.ifCond .ne 15, 3) := by decide +kernel
theorem dL_law_1383 : decode cL_law 1383 = .ok (.aload_n 3, 1) := by decide +kernel
theorem dL_law_1384 : decode cL_law 1384 = .ok (.iconst 0, 1) := by decide +kernel
theorem dL_law_1385 : decode cL_law 1385 = .ok (.laload, 1) := by decide +kernel
theorem dL_law_1386 : decode cL_law 1386 = .ok (.iload 6, 2) := by decide +kernel
theorem dL_law_1388 : decode cL_law 1388 = .ok (.i2l, 1) := by decide +kernel
theorem dL_law_1389 : decode cL_law 1389 = .ok (.lcmp, 1) := by decide +kernel
theorem dL_law_1390 : decode cL_law 1390 = .ok (.ifCond .eq 5, 3) := by decide +kernel
theorem dL_law_1393 : decode cL_law 1393 = .ok (.iconst 0, 1) := by decide +kernel
theorem dL_law_1394 : decode cL_law 1394 = .ok (.ireturn, 1) := by decide +kernel
theorem dL_law_1395 : decode cL_law 1395 = .ok (.goto 184, 3) := by decide +kernel
theorem dL_law_1398 : decode cL_law 1398 = .ok (.aload_n 1, 1) := by decide +kernel
theorem dL_law_1399 : decode cL_law 1399 = .ok (.aload_n 0, 1) := by decide +kernel
theorem dL_law_1400 : decode cL_law 1400 = .ok (.iload 4, 2) := by decide +kernel
theorem dL_law_1402 : decode cL_law 1402 = .ok (.iconst 1, 1) := by decide +kernel
theorem dL_law_1403 : decode cL_law 1403 = .ok (.iadd, 1) := by decide +kernel
theorem dL_law_1404 : decode cL_law 1404 = .ok (.iaload, 1) := by decide +kernel
theorem dL_law_1405 : decode cL_law 1405 = .ok (.aload_n 3, 1) := by decide +kernel
theorem dL_law_1406 : decode cL_law 1406 = .ok (.invokestatic 176, 3) := by decide +kernel
theorem dL_law_1409 : decode cL_law 1409 = .ok (.istore 5, 2) := by decide +kernel
theorem dL_law_1411 : decode cL_law 1411 = .ok (.aload_n 2, 1) := by decide +kernel
theorem dL_law_1412 : decode cL_law 1412 = .ok (.aload_n 0, 1) := by decide +kernel
theorem dL_law_1413 : decode cL_law 1413 = .ok (.iload 4, 2) := by decide +kernel
theorem dL_law_1415 : decode cL_law 1415 = .ok (.iconst 1, 1) := by decide +kernel
theorem dL_law_1416 : decode cL_law 1416 = .ok (.iadd, 1) := by decide +kernel
theorem dL_law_1417 : decode cL_law 1417 = .ok (.iaload, 1) := by decide +kernel
theorem dL_law_1418 : decode cL_law 1418 = .ok (.invokevirtual 178, 3) := by decide +kernel
theorem dL_law_1421 : decode cL_law 1421 = .ok (.istore 6, 2) := by decide +kernel
theorem dL_law_1423 : decode cL_law 1423 = .ok (.aload_n 2, 1) := by decide +kernel
theorem dL_law_1424 : decode cL_law 1424 = .ok (.invokevirtual 92, 3) := by decide +kernel
theorem dL_law_1427 : decode cL_law 1427 = .ok (.iload 5, 2) := by decide +kernel
theorem dL_law_1429 : decode cL_law 1429 = .ok (.if_icmp .eq 5, 3) := by decide +kernel
theorem dL_law_1432 : decode cL_law 1432 = .ok (.iconst 0, 1) := by decide +kernel
theorem dL_law_1433 : decode cL_law 1433 = .ok (.ireturn, 1) := by decide +kernel
theorem dL_law_1434 : decode cL_law 1434 = .ok (.iload 5, 2) := by decide +kernel
theorem dL_law_1436 : decode cL_law 1436 = .ok (.ifCond .ne 15, 3) := by decide +kernel
theorem dL_law_1439 : decode cL_law 1439 = .ok (.aload_n 3, 1) := by decide +kernel
theorem dL_law_1440 : decode cL_law 1440 = .ok (.iconst 0, 1) := by decide +kernel
theorem dL_law_1441 : decode cL_law 1441 = .ok (.laload, 1) := by decide +kernel
theorem dL_law_1442 : decode cL_law 1442 = .ok (.iload 6, 2) := by decide +kernel
theorem dL_law_1444 : decode cL_law 1444 = .ok (.i2l, 1) := by decide +kernel
theorem dL_law_1445 : decode cL_law 1445 = .ok (.lcmp, 1) := by decide +kernel
theorem dL_law_1446 : decode cL_law 1446 = .ok (.ifCond .eq 5, 3) := by decide +kernel
theorem dL_law_1449 : decode cL_law 1449 = .ok (.iconst 0, 1) := by decide +kernel
theorem dL_law_1450 : decode cL_law 1450 = .ok (.ireturn, 1) := by decide +kernel
theorem dL_law_1451 : decode cL_law 1451 = .ok (.goto 128, 3) := by decide +kernel
theorem dL_law_1454 : decode cL_law 1454 = .ok (.aload_n 1, 1) := by decide +kernel
theorem dL_law_1455 : decode cL_law 1455 = .ok (.invokevirtual 179, 3) := by decide +kernel
theorem dL_law_1458 : decode cL_law 1458 = .ok (.aload_n 2, 1) := by decide +kernel
theorem dL_law_1459 : decode cL_law 1459 = .ok (.invokevirtual 182, 3) := by decide +kernel
theorem dL_law_1462 : decode cL_law 1462 = .ok (.if_icmp .eq 117, 3) := by decide +kernel
theorem dL_law_1465 : decode cL_law 1465 = .ok (.iconst 0, 1) := by decide +kernel
theorem dL_law_1466 : decode cL_law 1466 = .ok (.ireturn, 1) := by decide +kernel
theorem dL_law_1467 : decode cL_law 1467 = .ok (.aload_n 1, 1) := by decide +kernel
theorem dL_law_1468 : decode cL_law 1468 = .ok (.aload_n 0, 1) := by decide +kernel
theorem dL_law_1469 : decode cL_law 1469 = .ok (.iload 4, 2) := by decide +kernel
theorem dL_law_1471 : decode cL_law 1471 = .ok (.iconst 1, 1) := by decide +kernel
theorem dL_law_1472 : decode cL_law 1472 = .ok (.iadd, 1) := by decide +kernel
theorem dL_law_1473 : decode cL_law 1473 = .ok (.iaload, 1) := by decide +kernel
theorem dL_law_1474 : decode cL_law 1474 = .ok (.aload_n 3, 1) := by decide +kernel
theorem dL_law_1475 : decode cL_law 1475 = .ok (.invokestatic 183, 3) := by decide +kernel
theorem dL_law_1478 : decode cL_law 1478 = .ok (.istore 5, 2) := by decide +kernel
theorem dL_law_1480 : decode cL_law 1480 = .ok (.aload_n 2, 1) := by decide +kernel
theorem dL_law_1481 : decode cL_law 1481 = .ok (.aload_n 0, 1) := by decide +kernel
theorem dL_law_1482 : decode cL_law 1482 = .ok (.iload 4, 2) := by decide +kernel
theorem dL_law_1484 : decode cL_law 1484 = .ok (.iconst 1, 1) := by decide +kernel
theorem dL_law_1485 : decode cL_law 1485 = .ok (.iadd, 1) := by decide +kernel
theorem dL_law_1486 : decode cL_law 1486 = .ok (.iaload, 1) := by decide +kernel
theorem dL_law_1487 : decode cL_law 1487 = .ok (.invokevirtual 185, 3) := by decide +kernel
theorem dL_law_1490 : decode cL_law 1490 = .ok (.istore 6, 2) := by decide +kernel
theorem dL_law_1492 : decode cL_law 1492 = .ok (.aload_n 2, 1) := by decide +kernel
theorem dL_law_1493 : decode cL_law 1493 = .ok (.invokevirtual 92, 3) := by decide +kernel
theorem dL_law_1496 : decode cL_law 1496 = .ok (.iload 5, 2) := by decide +kernel
theorem dL_law_1498 : decode cL_law 1498 = .ok (.if_icmp .eq 5, 3) := by decide +kernel
theorem dL_law_1501 : decode cL_law 1501 = .ok (.iconst 0, 1) := by decide +kernel
theorem dL_law_1502 : decode cL_law 1502 = .ok (.ireturn, 1) := by decide +kernel
theorem dL_law_1503 : decode cL_law 1503 = .ok (.iload 5, 2) := by decide +kernel
theorem dL_law_1505 : decode cL_law 1505 = .ok (.ifCond .ne 15, 3) := by decide +kernel
theorem dL_law_1508 : decode cL_law 1508 = .ok (.aload_n 3, 1) := by decide +kernel
theorem dL_law_1509 : decode cL_law 1509 = .ok (.iconst 0, 1) := by decide +kernel
theorem dL_law_1510 : decode cL_law 1510 = .ok (.laload, 1) := by decide +kernel
theorem dL_law_1511 : decode cL_law 1511 = .ok (.iload 6, 2) := by decide +kernel
theorem dL_law_1513 : decode cL_law 1513 = .ok (.i2l, 1) := by decide +kernel
theorem dL_law_1514 : decode cL_law 1514 = .ok (.lcmp, 1) := by decide +kernel
theorem dL_law_1515 : decode cL_law 1515 = .ok (.ifCond .eq 5, 3) := by decide +kernel
theorem dL_law_1518 : decode cL_law 1518 = .ok (.iconst 0, 1) := by decide +kernel
theorem dL_law_1519 : decode cL_law 1519 = .ok (.ireturn, 1) := by decide +kernel
theorem dL_law_1520 : decode cL_law 1520 = .ok (.goto 59, 3) := by decide +kernel
theorem dL_law_1523 : decode cL_law 1523 = .ok (.aload_n 1, 1) := by decide +kernel
theorem dL_law_1524 : decode cL_law 1524 = .ok (.aload_n 0, 1) := by decide +kernel
theorem dL_law_1525 : decode cL_law 1525 = .ok (.iload 4, 2) := by decide +kernel
theorem dL_law_1527 : decode cL_law 1527 = .ok (.iconst 1, 1) := by decide +kernel
theorem dL_law_1528 : decode cL_law 1528 = .ok (.iadd, 1) := by decide +kernel
theorem dL_law_1529 : decode cL_law 1529 = .ok (.iaload, 1) := by decide +kernel
theorem dL_law_1530 : decode cL_law 1530 = .ok (.aload_n 3, 1) := by decide +kernel
theorem dL_law_1531 : decode cL_law 1531 = .ok (.invokestatic 186, 3) := by decide +kernel
theorem dL_law_1534 : decode cL_law 1534 = .ok (.istore 5, 2) := by decide +kernel
theorem dL_law_1536 : decode cL_law 1536 = .ok (.aload_n 2, 1) := by decide +kernel
theorem dL_law_1537 : decode cL_law 1537 = .ok (.aload_n 0, 1) := by decide +kernel
theorem dL_law_1538 : decode cL_law 1538 = .ok (.iload 4, 2) := by decide +kernel
theorem dL_law_1540 : decode cL_law 1540 = .ok (.iconst 1, 1) := by decide +kernel
theorem dL_law_1541 : decode cL_law 1541 = .ok (.iadd, 1) := by decide +kernel
theorem dL_law_1542 : decode cL_law 1542 = .ok (.iaload, 1) := by decide +kernel
theorem dL_law_1543 : decode cL_law 1543 = .ok (.invokevirtual 188, 3) := by decide +kernel
theorem dL_law_1546 : decode cL_law 1546 = .ok (.istore 6, 2) := by decide +kernel
theorem dL_law_1548 : decode cL_law 1548 = .ok (.aload_n 2, 1) := by decide +kernel
theorem dL_law_1549 : decode cL_law 1549 = .ok (.invokevirtual 92, 3) := by decide +kernel
theorem dL_law_1552 : decode cL_law 1552 = .ok (.iload 5, 2) := by decide +kernel
theorem dL_law_1554 : decode cL_law 1554 = .ok (.if_icmp .eq 5, 3) := by decide +kernel
theorem dL_law_1557 : decode cL_law 1557 = .ok (.iconst 0, 1) := by decide +kernel
theorem dL_law_1558 : decode cL_law 1558 = .ok (.ireturn, 1) := by decide +kernel
theorem dL_law_1559 : decode cL_law 1559 = .ok (.iload 5, 2) := by decide +kernel
theorem dL_law_1561 : decode cL_law 1561 = .ok (.ifCond .ne 15, 3) := by decide +kernel
theorem dL_law_1564 : decode cL_law 1564 = .ok (.aload_n 3, 1) := by decide +kernel
theorem dL_law_1565 : decode cL_law 1565 = .ok (.iconst 0, 1) := by decide +kernel
theorem dL_law_1566 : decode cL_law 1566 = .ok (.laload, 1) := by decide +kernel
theorem dL_law_1567 : decode cL_law 1567 = .ok (.iload 6, 2) := by decide +kernel
theorem dL_law_1569 : decode cL_law 1569 = .ok (.i2l, 1) := by decide +kernel
theorem dL_law_1570 : decode cL_law 1570 = .ok (.lcmp, 1) := by decide +kernel
theorem dL_law_1571 : decode cL_law 1571 = .ok (.ifCond .eq 5, 3) := by decide +kernel
theorem dL_law_1574 : decode cL_law 1574 = .ok (.iconst 0, 1) := by decide +kernel
theorem dL_law_1575 : decode cL_law 1575 = .ok (.ireturn, 1) := by decide +kernel
theorem dL_law_1576 : decode cL_law 1576 = .ok (.goto 3, 3) := by decide +kernel
theorem dL_law_1579 : decode cL_law 1579 = .ok (.iinc 4 3, 3) := by decide +kernel
theorem dL_law_1582 : decode cL_law 1582 = .ok (.goto (-1559), 3) := by decide +kernel
theorem dL_law_1585 : decode cL_law 1585 = .ok (.iconst 1, 1) := by decide +kernel
theorem dL_law_1586 : decode cL_law 1586 = .ok (.ireturn, 1) := by decide +kernel
end
section
abbrev AA : Type := Nat → Int32
/-- the links between nest mates, which no list of words holds -/
def nbL : List (String × Nat × MethodName × String) := [(RX4, 18, yX2_init, RX4), (RX4, 9, yX1_init, RX4), (RX0, 52, yX4_has, RX4), (RX0, 55, yX4_nodeAtPlace, RX4), (RX0, 62, yX4_only, RX4), (RX1, 24, yX4_only, RX4), (RX1, 28, yX4_has, RX4), (RX3, 40, yX4_has, RX4)]
def NB (U : State) : Prop := ∀ q ∈ nbL, va_Nw (.methodLinkNest q.1 q.2.1 q.2.2.1 q.2.2.2) U
theorem NB.warm {s U : State} (hW : s.WarmedH U.vm) (h : NB s) : NB U := fun q hq => va_Nw.warmM hW (h q hq)
theorem NB.same {u U : State} (hv : u.vm = U.vm) (h : NB u) : NB U := fun q hq => va_Nw.same rfl hv (h q hq)
theorem NB.at {U : State} (h : NB U) (i : Nat) {q : String × Nat × MethodName × String} (hi : nbL[i]? = some q) : va_Nw (.methodLinkNest q.1 q.2.1 q.2.2.1 q.2.2.2) U := h q (List.mem_of_getElem? hi)
/-- the world that a call begins with -/
def PW (D : va_G) (tys : List (ClassId × FieldType)) (sz : Nat) (w : va_W) (U : State) : Prop := U.heap.size = sz ∧ va_P D vwCl w U.heap ∧ va_K D vwCl tys U ∧ va_D (fun _ => True) w ∧ NB U
/-- the world that a call ends with -/
def QW (D : va_G) (tys : List (ClassId × FieldType)) (A : Nat → Prop) (w : va_W) (t : State) : Prop := va_P D vwCl w t.heap ∧ va_K D vwCl tys t ∧ va_D A w
theorem PW.blind {av : List Value} {D : va_G} {tys : List (ClassId × FieldType)} {sz : Nat} {w : va_W} : FrameBlind (va_Pc av (PW D tys sz w)) := fun a U g mk q => by
  obtain ⟨q0, q1, q2, q3, q4, q5⟩ := q
  exact ⟨q0, q1, q2, va_K.moved (u := U) (U := U.calling g mk a) (Vm.Alike.refl U.vm) q3, q4, NB.same (u := U) rfl q5⟩
theorem PW.give {D : va_G} {tys : List (ClassId × FieldType)} {w : va_W} {s : State} {H : Heap} {A : Nat → Prop} (hP : va_P D vwCl w H) (hK : va_K D vwCl tys s) (hD : va_D A w) (hN : NB s) : ∀ U : State, U.heap = H → s.WarmedH U.vm → PW D tys H.size w U :=
  fun U hU hW => ⟨by rw [hU], by rw [hU]; exact hP, va_K.moved hW.alike hK, hD.weaken (fun _ _ _ _ => trivial), NB.warm hW hN⟩
theorem pick_of_map {α β : Type} {f : β → Option α} : ∀ {is : List β} {l : List α}, is.map f = l.map some → is.filterMap f = l
  | [], [], _ => rfl
  | [], _ :: _, h => by cases h
  | _ :: _, [], h => by cases h
  | i :: is, a :: l, h => by
    rw [List.map_cons, List.map_cons] at h
    have h1 := List.head_eq_of_cons_eq h
    have h2 := pick_of_map (List.tail_eq_of_cons_eq h)
    rw [List.filterMap_cons, h1, h2]
section
variable {p : Program} {l : Launch} {e : Env} {R : Room} {s : State} {m : MethodId} {args : Array Value} {below : List Frame} {meth : Method} {c : Code} {H : Heap} {locs : List Loc} {cells slots : Nat} {Q : State → Prop}
variable {mc ms : Nat} {A0 : Nat → Prop} {H0 : Heap} {a : Array Value} {pc : Nat} {ls : Array Slot} {st0 rest : List Value} {D : va_G} {tys : List (ClassId × FieldType)}
/-- what stands behind a call: the callee's cells as they came back, put where they were -/
theorem k_world {S : Type} {ws wc wr : va_W} {w1 w2 : S → va_W} (hP : va_P D vwCl ws H) (hD : va_D A0 ws) (hS : va_S A0 H0 H locs) (hA : ∀ q, H0.size ≤ q → A0 q)
    (isC isR : List Nat) (hC : isC.map (fun i => ws[i]?) = wc.map some) (hR : isR.map (fun i => ws[i]?) = wr.map some) (hn : va_nd isR = true) (hdis : (isR.all fun i => !isC.contains i) = true)
    (perm : List Nat) (hn2 : va_nd perm = true) (hp2 : ∀ u, perm.map (fun i => (wr ++ w1 u)[i]?) = (w2 u).map some)
    {u : S} {H1 : Heap} (hk1 : ∀ q : Nat, q < H.size → ¬ va_A wc H.size q → H1[q]? = H[q]?) (hP1 : va_P D vwCl (w1 u) H1) (hD1 : va_D (va_A wc H.size) (w1 u)) : va_P D vwCl (w2 u) H1 ∧ va_D A0 (w2 u) := by
  obtain ⟨h1, h2⟩ := va_join (wr := wr) (w1 := w1 u) hP hD isC isR hC hR hn (fun i hi hc => by
    have h9 := List.all_eq_true.mp hdis i hi
    rw [List.contains_iff_mem.mpr hc] at h9
    cases h9) hk1 (va_free (wc := wc) hD hS hA isC hC) hP1 hD1
  exact ⟨h1.sub perm (pick_of_map (hp2 u)), h2.sub perm hn2 (hp2 u)⟩
theorem k_calli {S : Type} {post : Int32 → S → Prop} {ws wc wr : va_W} {w1 : S → va_W} (w2 : S → va_W) (hP : va_P D vwCl ws H) (hK : va_K D vwCl tys s) (hD : va_D A0 ws) (hN : NB s) (hS : va_S A0 H0 H locs) (hA : ∀ q, H0.size ≤ q → A0 q)
    (isC isR : List Nat) (hC : isC.map (fun i => ws[i]?) = wc.map some) (hR : isR.map (fun i => ws[i]?) = wr.map some) (hn : va_nd isC = true) (hnr : va_nd isR = true) (hdis : (isR.all fun i => !isC.contains i) = true)
    (perm : List Nat) (hn2 : va_nd perm = true) (hp2 : ∀ u, perm.map (fun i => (wr ++ w1 u)[i]?) = (w2 u).map some)
    (run : (∀ U : State, U.heap = H → s.WarmedH U.vm → PW D tys H.size wc U) → va_Run p l e R s m args below meth c H locs cells slots mc ms (F0 m pc ls st0) rest (va_Qi post (fun u t => QW D tys (va_A wc H.size) (w1 u) t) (va_A wc H.size) a) (va_A wc H.size))
    (kk : ∀ (r : Int32) (u : S) (H1 : Heap) (locs1 : List Loc), post r u → va_P D vwCl (w2 u) H1 → va_D A0 (w2 u) → va_S A0 H0 H1 locs1 → W p l e R s m args below meth c H1 locs1 (cells + mc) (slots + ms) Q (F0 m (pc + 3) ls (.int r :: rest))) : W p l e R s m args below meth c H locs cells slots Q (F0 m pc ls st0) := by
  have hF := va_free (wc := wc) hD hS hA isC hC
  refine va_calli (run (PW.give (hP.sub isC (pick_of_map hC)) hK (hD.sub isC hn hC) hN)) hS (fun q _ h => hF q h) hF ?_
  intro r u t H1 locs1 ht hvm hw hB hz hk1 hS1
  obtain ⟨hP1, hK1, hD1⟩ := hB
  rw [ht] at hP1
  obtain ⟨h1, h2⟩ := k_world (w1 := w1) (w2 := w2) hP hD hS hA isC isR hC hR hnr hdis perm hn2 hp2 hk1 hP1 hD1
  exact kk r u H1 locs1 hw h1 h2 hS1
theorem k_callv {S : Type} {post : S → Prop} {ws wc wr : va_W} {w1 : S → va_W} (w2 : S → va_W) (hP : va_P D vwCl ws H) (hK : va_K D vwCl tys s) (hD : va_D A0 ws) (hN : NB s) (hS : va_S A0 H0 H locs) (hA : ∀ q, H0.size ≤ q → A0 q)
    (isC isR : List Nat) (hC : isC.map (fun i => ws[i]?) = wc.map some) (hR : isR.map (fun i => ws[i]?) = wr.map some) (hn : va_nd isC = true) (hnr : va_nd isR = true) (hdis : (isR.all fun i => !isC.contains i) = true)
    (perm : List Nat) (hn2 : va_nd perm = true) (hp2 : ∀ u, perm.map (fun i => (wr ++ w1 u)[i]?) = (w2 u).map some)
    (run : (∀ U : State, U.heap = H → s.WarmedH U.vm → PW D tys H.size wc U) → va_Run p l e R s m args below meth c H locs cells slots mc ms (F0 m pc ls st0) rest (va_Qv post (fun u t => QW D tys (va_A wc H.size) (w1 u) t) (va_A wc H.size) a) (va_A wc H.size))
    (kk : ∀ (u : S) (H1 : Heap) (locs1 : List Loc), post u → va_P D vwCl (w2 u) H1 → va_D A0 (w2 u) → va_S A0 H0 H1 locs1 → W p l e R s m args below meth c H1 locs1 (cells + mc) (slots + ms) Q (F0 m (pc + 3) ls rest)) : W p l e R s m args below meth c H locs cells slots Q (F0 m pc ls st0) := by
  have hF := va_free (wc := wc) hD hS hA isC hC
  refine va_callv (run (PW.give (hP.sub isC (pick_of_map hC)) hK (hD.sub isC hn hC) hN)) hS (fun q _ h => hF q h) hF ?_
  intro u t H1 locs1 ht hvm hw hB hz hk1 hS1
  obtain ⟨hP1, hK1, hD1⟩ := hB
  rw [ht] at hP1
  obtain ⟨h1, h2⟩ := k_world (w1 := w1) (w2 := w2) hP hD hS hA isC isR hC hR hnr hdis perm hn2 hp2 hk1 hP1 hD1
  exact kk u H1 locs1 hw h1 h2 hS1
theorem k_callr {S : Type} {post : S → Prop} {ws wc wr : va_W} {w1 : S → va_W} {ra : S → Nat} (w2 : S → va_W) (hP : va_P D vwCl ws H) (hK : va_K D vwCl tys s) (hD : va_D A0 ws) (hN : NB s) (hS : va_S A0 H0 H locs) (hA : ∀ q, H0.size ≤ q → A0 q)
    (isC isR : List Nat) (hC : isC.map (fun i => ws[i]?) = wc.map some) (hR : isR.map (fun i => ws[i]?) = wr.map some) (hn : va_nd isC = true) (hnr : va_nd isR = true) (hdis : (isR.all fun i => !isC.contains i) = true)
    (perm : List Nat) (hn2 : va_nd perm = true) (hp2 : ∀ u, perm.map (fun i => (wr ++ w1 u)[i]?) = (w2 u).map some)
    (run : (∀ U : State, U.heap = H → s.WarmedH U.vm → PW D tys H.size wc U) → va_Run p l e R s m args below meth c H locs cells slots mc ms (F0 m pc ls st0) rest (va_Qr post (fun u x t => x = ra u ∧ QW D tys (va_A wc H.size) (w1 u) t) (va_A wc H.size) a) (va_A wc H.size))
    (kk : ∀ (u : S) (H1 : Heap) (locs1 : List Loc), post u → va_P D vwCl (w2 u) H1 → va_D A0 (w2 u) → va_S A0 H0 H1 locs1 → W p l e R s m args below meth c H1 locs1 (cells + mc) (slots + ms) Q (F0 m (pc + 3) ls (.ref (ra u) :: rest))) : W p l e R s m args below meth c H locs cells slots Q (F0 m pc ls st0) := by
  have hF := va_free (wc := wc) hD hS hA isC hC
  refine va_callr (run (PW.give (hP.sub isC (pick_of_map hC)) hK (hD.sub isC hn hC) hN)) hS (fun q _ h => hF q h) hF ?_
  intro u ra t H1 locs1 ht hvm hw hB hz hk1 hS1
  obtain ⟨rfl, hP1, hK1, hD1⟩ := hB
  rw [ht] at hP1
  obtain ⟨h1, h2⟩ := k_world (w1 := w1) (w2 := w2) hP hD hS hA isC isR hC hR hnr hdis perm hn2 hp2 hk1 hP1 hD1
  exact kk u H1 locs1 hw h1 h2 hS1
/-- a new array of ints, of the one class that they all have -/
theorem k_newI {ws : va_W} {cI : ClassId} (hexec : p.tables.exec = Jvm.exec) {cc : ByteArray} (hb : c.code = cc) (harr : (Cond.arrayClass .int).before args s = true) {rs : List (ClassId × FieldType)} (hK : va_K D vwCl ((cI, .int) :: rs) s) (hP : va_P D vwCl ws H) (hD : va_D A0 ws) (hS : va_S A0 H0 H locs) (hA : ∀ q, H0.size ≤ q → A0 q)
    {n : Int32} {N' : Nat} (hn : ¬ n < 0) (hN : n.toNatClampNeg = N') (hbytes : N' * 4 ≤ 536870912) (hcells : cells + 1 ≤ R.cells) (hslots : slots + N' ≤ R.slots) (hdg : decode cc pc = .ok (.newarray .int, 2))
    (kk : ∀ (q : Nat) (H1 : Heap), va_P D vwCl (ws ++ [(q, .inl (cI, N', .inl (fun _ => 0)))]) H1 → va_D A0 (ws ++ [(q, .inl (cI, N', .inl (fun _ => 0)))]) → va_S A0 H0 H1 locs →
      W p l e R s m args below meth c H1 locs (cells + 1) (slots + N') Q (F0 m (pc + 2) ls (.ref q :: rest))) : W p l e R s m args below meth c H locs cells slots Q (F0 m pc ls (.int n :: rest)) := by
  refine va_newa (ty := .int) (a0 := (N', .inl (fun _ => 0))) hexec hb harr rfl hK hP hD hS hA (fun cA => rfl) hn hN hbytes hcells hslots hdg ?_
  intro q cA H1 hK1 hP1 hD1 hS1
  have e1 := (hK1.2 0 (cI, .int) rfl).2
  have e2 := (hK1.2 (rs.length + 1) (cA, .int) (by simp)).2
  have e3 : cI = cA := Option.some.inj (Eq.trans (Eq.symm (show s.vm.findClass _ = some cI from e1)) (show s.vm.findClass _ = some cA from e2))
  subst e3
  exact kk q H1 hP1 hD1 hS1
end
end
section
/-- the texts of the exceptions that the class throws -/
def strL : List (Nat × String) := [(168, "no such place"), (180, "no such node"), (182, "ticks out of range"), (190, "the alarm can't change"), (193, "no such event"), (51, "a node would depend on itself"), (98, "no such state")]
abbrev eIO : String := "java/lang/IndexOutOfBoundsException"
abbrev eIA : String := "java/lang/IllegalArgumentException"
abbrev eIS : String := "java/lang/IllegalStateException"
/-- what a throw needs of the start: two statics of Throwable, the texts, which classes are not above which -/
def XB (A : Nat → Prop) (U : State) (H : Heap) : Prop := vx_Zq Bundle.tN "UNASSIGNED_STACK" Bundle.steD A U H ∧ vx_Zq Bundle.tN "SUPPRESSED_SENTINEL" Bundle.listD A U H ∧ (∀ q ∈ strL, ∃ a : Nat, vk_R RX4 q.1 q.2 a U) ∧ va_Nc eIA eIO U ∧ va_Nc eIS eIO U
def PX (D : va_G) (tys : List (ClassId × FieldType)) (sz : Nat) (w : va_W) (U : State) : Prop := PW D tys sz w U ∧ XB (va_A w sz) U U.heap
theorem PX.blind {av : List Value} {D : va_G} {tys : List (ClassId × FieldType)} {sz : Nat} {w : va_W} : FrameBlind (va_Pc av (PX D tys sz w)) := fun a U g mk q => by
  obtain ⟨q0, q1, q2, q3, q4, q5, q6⟩ := q
  have h1 := PW.blind (av := av) (D := D) (tys := tys) (sz := sz) (w := w) a U g mk ⟨q0, q1⟩
  exact ⟨q0, h1.2, vx_Zq.moved (u := U) (Vm.Alike.refl U.vm) q2, vx_Zq.moved (u := U) (Vm.Alike.refl U.vm) q3, fun z hz => by obtain ⟨y, hy⟩ := q4 z hz; exact ⟨y, vk_R.same (u := U) rfl hy⟩, va_Nc.moved (u := U) (Vm.Alike.refl U.vm) q5, va_Nc.moved (u := U) (Vm.Alike.refl U.vm) q6⟩
theorem PX.give {D : va_G} {tys : List (ClassId × FieldType)} {w : va_W} {s : State} {H : Heap} {locs : List Loc} {A : Nat → Prop} (hP : va_P D vwCl w H) (hK : va_K D vwCl tys s) (hD : va_D A w) (hN : NB s) (hX : XB A s s.heap) (hS : va_S A s.heap H locs) (hF : ∀ q, va_A w H.size q → A q) : ∀ U : State, U.heap = H → s.WarmedH U.vm → PX D tys H.size w U :=
  fun U hU hW => ⟨PW.give hP hK hD hN U hU hW, by
    rw [hU]
    have z : ∀ {C n d : String}, vx_Zq C n d A s s.heap → vx_Zq C n d (va_A w H.size) U H := fun h => vx_Zq.moved hW.alike (vx_Zq.narrow (vx_Zq.kept h hS.2.1) hF)
    exact ⟨z hX.1, z hX.2.1, fun q hq => by obtain ⟨y, hy⟩ := hX.2.2.1 q hq; exact ⟨y, vk_R.warm hW hy⟩, va_Nc.moved hW.alike hX.2.2.2.1, va_Nc.moved hW.alike hX.2.2.2.2⟩⟩
section
variable {p : Program} {l : Launch} {e : Env} {R : Room} {s : State} {m : MethodId} {args : Array Value} {below : List Frame} {meth : Method} {c : Code} {H : Heap} {locs : List Loc} {cells slots : Nat} {Q : State → Prop}
variable {mc ms : Nat} {A0 : Nat → Prop} {a : Array Value} {pc : Nat} {ls : Array Slot} {st0 rest : List Value} {D : va_G} {tys : List (ClassId × FieldType)}
/-- a call that may throw, and answers an int -/
theorem k_xcalli {S : Type} {post : Int32 → S → Prop} {px : String → Prop} {ws wc wr : va_W} {w1 : S → va_W} (w2 : S → va_W) (hP : va_P D vwCl ws H) (hK : va_K D vwCl tys s) (hD : va_D A0 ws) (hN : NB s) (hX : XB A0 s s.heap) (hS : va_S A0 s.heap H locs) (hA : ∀ q, s.heap.size ≤ q → A0 q)
    (isC isR : List Nat) (hC : isC.map (fun i => ws[i]?) = wc.map some) (hR : isR.map (fun i => ws[i]?) = wr.map some) (hn : va_nd isC = true) (hnr : va_nd isR = true) (hdis : (isR.all fun i => !isC.contains i) = true)
    (perm : List Nat) (hn2 : va_nd perm = true) (hp2 : ∀ u, perm.map (fun i => (wr ++ w1 u)[i]?) = (w2 u).map some) (hpx : perm.map (fun i => (wr ++ wc)[i]?) = ws.map some)
    (run : (∀ U : State, U.heap = H → s.WarmedH U.vm → PX D tys H.size wc U) → vx_Run p l e R s m args below meth c H locs cells slots mc ms (F0 m pc ls st0) rest (va_Qi post (fun u t => QW D tys (va_A wc H.size) (w1 u) t) (va_A wc H.size) a) (vx_X (fun _ : Unit => True) (fun E _ t => px E ∧ QW D tys (va_A wc H.size) wc t) (va_A wc H.size)) (va_A wc H.size))
    (kx : ∀ (E : String) (ce : Cell) (q9 : Addr) (H1 : Heap) (locs1 : List Loc), px E → va_P D vwCl ws H1 → va_D A0 ws → va_S A0 s.heap H1 locs1 → H1[q9]? = some ce → ce.vm = .none → s.vm.findClass E = some ce.cls → vx_W p l e R s m args below meth c H1 locs1 (cells + mc) (slots + ms) Q (F0 m pc ls rest) q9)
    (kk : ∀ (r : Int32) (u : S) (H1 : Heap) (locs1 : List Loc), post r u → va_P D vwCl (w2 u) H1 → va_D A0 (w2 u) → va_S A0 s.heap H1 locs1 → W p l e R s m args below meth c H1 locs1 (cells + mc) (slots + ms) Q (F0 m (pc + 3) ls (.int r :: rest))) : W p l e R s m args below meth c H locs cells slots Q (F0 m pc ls st0) := by
  have hF := va_free (wc := wc) hD hS hA isC hC
  refine vx_calli (run (PX.give (hP.sub isC (pick_of_map hC)) hK (hD.sub isC hn hC) hN hX hS hF)) hS (fun q _ h => hF q h) hF (fun q _ h => hF q h) ?_ ?_
  · intro E ce q9 u t H1 locs1 ht hvm _ hB hz hk1 hS1 h7 h8 h9
    obtain ⟨hw, hP1, hK1, hD1⟩ := hB
    rw [ht] at hP1
    obtain ⟨h1, h2⟩ := k_world (S := Unit) (w1 := fun _ => wc) (w2 := fun _ => ws) hP hD hS hA isC isR hC hR hnr hdis perm hn2 (fun _ => hpx) (u := ()) hk1 hP1 hD1
    exact kx E ce q9 H1 locs1 hw h1 h2 hS1 h7 h8 h9
  · intro r u t H1 locs1 ht hvm hw hB hz hk1 hS1
    obtain ⟨hP1, hK1, hD1⟩ := hB
    rw [ht] at hP1
    obtain ⟨h1, h2⟩ := k_world (w1 := w1) (w2 := w2) hP hD hS hA isC isR hC hR hnr hdis perm hn2 hp2 hk1 hP1 hD1
    exact kk r u H1 locs1 hw h1 h2 hS1
/-- .. and answers nothing -/
theorem k_xcallv {S : Type} {post : S → Prop} {px : String → Prop} {ws wc wr : va_W} {w1 : S → va_W} (w2 : S → va_W) (hP : va_P D vwCl ws H) (hK : va_K D vwCl tys s) (hD : va_D A0 ws) (hN : NB s) (hX : XB A0 s s.heap) (hS : va_S A0 s.heap H locs) (hA : ∀ q, s.heap.size ≤ q → A0 q)
    (isC isR : List Nat) (hC : isC.map (fun i => ws[i]?) = wc.map some) (hR : isR.map (fun i => ws[i]?) = wr.map some) (hn : va_nd isC = true) (hnr : va_nd isR = true) (hdis : (isR.all fun i => !isC.contains i) = true)
    (perm : List Nat) (hn2 : va_nd perm = true) (hp2 : ∀ u, perm.map (fun i => (wr ++ w1 u)[i]?) = (w2 u).map some) (hpx : perm.map (fun i => (wr ++ wc)[i]?) = ws.map some)
    (run : (∀ U : State, U.heap = H → s.WarmedH U.vm → PX D tys H.size wc U) → vx_Run p l e R s m args below meth c H locs cells slots mc ms (F0 m pc ls st0) rest (va_Qv post (fun u t => QW D tys (va_A wc H.size) (w1 u) t) (va_A wc H.size) a) (vx_X (fun _ : Unit => True) (fun E _ t => px E ∧ QW D tys (va_A wc H.size) wc t) (va_A wc H.size)) (va_A wc H.size))
    (kx : ∀ (E : String) (ce : Cell) (q9 : Addr) (H1 : Heap) (locs1 : List Loc), px E → va_P D vwCl ws H1 → va_D A0 ws → va_S A0 s.heap H1 locs1 → H1[q9]? = some ce → ce.vm = .none → s.vm.findClass E = some ce.cls → vx_W p l e R s m args below meth c H1 locs1 (cells + mc) (slots + ms) Q (F0 m pc ls rest) q9)
    (kk : ∀ (u : S) (H1 : Heap) (locs1 : List Loc), post u → va_P D vwCl (w2 u) H1 → va_D A0 (w2 u) → va_S A0 s.heap H1 locs1 → W p l e R s m args below meth c H1 locs1 (cells + mc) (slots + ms) Q (F0 m (pc + 3) ls rest)) : W p l e R s m args below meth c H locs cells slots Q (F0 m pc ls st0) := by
  have hF := va_free (wc := wc) hD hS hA isC hC
  refine vx_callv (run (PX.give (hP.sub isC (pick_of_map hC)) hK (hD.sub isC hn hC) hN hX hS hF)) hS (fun q _ h => hF q h) hF (fun q _ h => hF q h) ?_ ?_
  · intro E ce q9 u t H1 locs1 ht hvm _ hB hz hk1 hS1 h7 h8 h9
    obtain ⟨hw, hP1, hK1, hD1⟩ := hB
    rw [ht] at hP1
    obtain ⟨h1, h2⟩ := k_world (S := Unit) (w1 := fun _ => wc) (w2 := fun _ => ws) hP hD hS hA isC isR hC hR hnr hdis perm hn2 (fun _ => hpx) (u := ()) hk1 hP1 hD1
    exact kx E ce q9 H1 locs1 hw h1 h2 hS1 h7 h8 h9
  · intro u t H1 locs1 ht hvm hw hB hz hk1 hS1
    obtain ⟨hP1, hK1, hD1⟩ := hB
    rw [ht] at hP1
    obtain ⟨h1, h2⟩ := k_world (w1 := w1) (w2 := w2) hP hD hS hA isC isR hC hR hnr hdis perm hn2 hp2 hk1 hP1 hD1
    exact kk u H1 locs1 hw h1 h2 hS1
/-- a method's own throw, its words out of the method's list -/
theorem k_throw {cc : ByteArray} {pc : Nat} {Qc : Array Value → State → Outcome → State → Prop} {px : String → Prop} (hexec : p.tables.exec = Jvm.exec) (hb : c.code = cc) (hl : l.stackTraces = false) {cls text : String} {ik is ic : Nat} {A : Nat → Prop} {ws : va_W} {Ts : List Cond}
    (hts : ∀ w ∈ Ts, w.before args s = true) (hown : s.vm.findClass RX4 = some m.cls) (hcls : Bundle.fit cls = true)
    (hk : Cond.classLink RX4 ik cls ∈ Ts) (hini : Cond.initialized cls ∈ Ts) (hstr : (is, text) ∈ strL)
    (hat : ∀ w ∈ (vx_atS RX4 ic cls ["java/lang/RuntimeException", "java/lang/Exception"]).filter goodWord, w ∈ Ts) (hat2 : (vx_atS RX4 ic cls ["java/lang/RuntimeException", "java/lang/Exception"]).filter (fun w => !goodWord w) = [])
    (hgood : ∀ w ∈ Cond.classLink RX4 ik cls :: Cond.initialized cls :: vx_atS RX4 ic cls ["java/lang/RuntimeException", "java/lang/Exception"], vx_ot w = true)
    (hX : XB A s s.heap) (hP : va_P D vwCl ws H) (hK : va_K D vwCl tys s) (hD : va_D A ws) (hS : va_S A s.heap H locs) (hsize : ls.size = c.maxLocals)
    (d0 : decode cc pc = .ok (.new ik, 3)) (d3 : decode cc (pc + 3) = .ok (.dup, 1)) (d4 : decode cc (pc + 4) = .ok (.ldc is, 2)) (d6 : decode cc (pc + 6) = .ok (.invokespecial ic, 3)) (d9 : decode cc (pc + 9) = .ok (.athrow, 1))
    (hout : ∀ x ∈ c.exceptionTable.toList, covers x (pc + 9) = false) (hRf : 6 ≤ R.frames) (hRl : (rest.map fun v => v.category).sum + 82 ≤ R.locals) (hRc : cells + 1 ≤ R.cells) (hRs : slots + 6 ≤ R.slots) (hlocks : meth.locks = false)
    (hc : cells + 1 ≤ mc) (hs : slots + 6 ≤ ms) (he : px cls) :
    W p l e R s m args below meth c H locs cells slots (vx_MQ below Qc (vx_X (fun _ : Unit => True) (fun E _ t => px E ∧ QW D tys A ws t) A) args s mc ms A) (F0 m pc ls rest) := by
  obtain ⟨sa, hsa⟩ := hX.2.2.1 _ hstr
  refine vx_throwS (names := ["java/lang/RuntimeException", "java/lang/Exception"]) hexec hb hl hown hcls (by decide +kernel) (hts _ hk) (hts _ hini) hsa ?_ hgood hX.1 hX.2.1 hS hsize d0 d3 d4 d6 d9 hout hRf hRl hRc hRs hlocks ?_ hS.2.2 hc hs
  · exact vx_hat (B := []) (fun w h => hts w (hat w h)) (fun w h => by rw [hat2] at h; exact h) vx_n
  · intro t hal hsz hkp
    refine ⟨(), trivial, ⟨he, ?_, va_K.moved hal hK, hD⟩, ?_⟩
    · exact hP.kept (fun k x hx => hkp x.1 ((hP k x hx).lt))
    · exact ⟨Nat.le_trans hS.1 hsz, fun q h1 h2 => (hkp q (Nat.lt_of_lt_of_le h1 hS.1)).trans (hS.2.1 q h1 h2)⟩
/-- not caught: out of the method -/
theorem k_out {pc : Nat} {Qc : Array Value → State → Outcome → State → Prop} {px : String → Prop} {E : String} {ce : Cell} {q9 : Addr} {A : Nat → Prop} {ws : va_W} (hout : ∀ x ∈ c.exceptionTable.toList, covers x pc = false) (hlocks : meth.locks = false)
    (hP : va_P D vwCl ws H) (hK : va_K D vwCl tys s) (hD : va_D A ws) (hS : va_S A s.heap H locs) (hcell : H[q9]? = some ce) (hv : ce.vm = .none) (hcl : s.vm.findClass E = some ce.cls) (hc : cells ≤ mc) (hs : slots ≤ ms) (he : px E) :
    vx_W p l e R s m args below meth c H locs cells slots (vx_MQ below Qc (vx_X (fun _ : Unit => True) (fun E _ t => px E ∧ QW D tys A ws t) A) args s mc ms A) (F0 m pc ls rest) q9 :=
  vx_out hout hlocks hcell hv hcl (fun t ht hal => ⟨(), trivial, ⟨he, by rw [ht]; exact hP, va_K.moved hal hK, hD⟩, hS.F ht⟩) hS.2.2 hc hs
end
end
